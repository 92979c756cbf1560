theorem lw_m {x u v : Int} (u0 : 0 ≤ u ∧ u < 4) (v0 : 0 ≤ v ∧ v < 4) (uv : u ≠ v) : lw (16 * x + 4 * u + v) = 16 * x + 4 * (if v < u then v else u) + (if u < v then v else u) := by
  obtain ⟨e4, e5, e6, e7⟩ := dgk (tt := x) u0 v0
  unfold lw
  rw [e7, e5]
  rcases Int.lt_or_le u v with z | z
  · rw [if_pos z, if_neg (by omega), if_pos z]
  · rw [if_neg (by omega), if_pos (by omega), if_neg (by omega), tr_m u0 v0]
theorem C3_tr {t : Int} {G E : Int → Int} {k : Int} : C3 t G E (tr k) ↔ C3 t G E k := by
  obtain ⟨p1, p2, p3⟩ := tr_p k
  have T : T3 G (tr k) ↔ T3 G k := by
    unfold T3
    rw [p1, p2, p3]
    exact ⟨fun h x y a b c e f g i j => h x y a b c e g f j i, fun h x y a b c e f g i j => h x y a b c e g f j i⟩
  unfold C3
  rw [eg_tr, T]
theorem C3_lw {t : Int} {G E : Int → Int} {k : Int} : C3 t G E (lw k) ↔ C3 t G E k := by
  unfold lw
  split
  · exact Iff.rfl
  · exact C3_tr
/-- one step round an edge -/
theorem ez_s {t : Int} {G E P : Int → Int} (hB : BP t G E P) (hG : VG t G) {T u v f m : Int} (T0 : 0 ≤ T ∧ T < t) (u0 : 0 ≤ u ∧ u < 4) (v0 : 0 ≤ v ∧ v < 4) (f0 : 0 ≤ f ∧ f < 4) (uv : u ≠ v) (uf' : u ≠ f) (vf : v ≠ f) (he : eg E (16 * T + 4 * u + v) = m) (hfr : fA E G (16 * t) 0 m = 0) :
    oE t (16 * T + 4 * u + v) ∧ 0 ≤ G (4 * T + f) ∧ (0 ≤ G (4 * T + f) / 32 ∧ G (4 * T + f) / 32 < t) ∧ (0 ≤ G (4 * T + f) % 32 ∧ G (4 * T + f) % 32 < 24) ∧ eg E (16 * (G (4 * T + f) / 32) + 4 * im (G (4 * T + f) % 32) u + im (G (4 * T + f) % 32) v) = m ∧ nE G f (16 * T + 4 * u + v) = 16 * (G (4 * T + f) / 32) + 4 * im (G (4 * T + f) % 32) u + im (G (4 * T + f) % 32) v := by
  obtain ⟨e4, e5, e6, e7⟩ := dgk (tt := T) u0 v0
  have hk : oE t (16 * T + 4 * u + v) := ⟨by omega, by omega, by omega⟩
  have g := fr_0 hB hG hk (by rw [he]; exact hfr) f f0.1 f0.2 (by rw [e7]; exact Ne.symm uf') (by rw [e5]; exact Ne.symm vf)
  have hp := nE_parts hG hk f0.1 f0.2 (by rw [e7]; exact Ne.symm uf') (by rw [e5]; exact Ne.symm vf) g
  have ha := nE_at (G := G) (f := f) (x := 16 * T + 4 * u + v) (by rw [e7, e5]; omega)
  rw [e6] at g
  rw [e6, e7, e5] at ha hp
  have q := pt_pt hG (k := 4 * T + f) (by omega) (by omega) g
  have en := eg_n hB hG hk f0.1 f0.2 hp.1
  refine ⟨hk, g, ⟨by omega, by omega⟩, ⟨hp.2.2.2.2.1, hp.2.2.2.2.2⟩, ?_, ha⟩
  rw [← ha, en.1, he]
theorem gs_2 {G : Int → Int} {a w y : Int} {X : Int → Prop} (w0 : 0 ≤ w ∧ w < 4) (y0 : 0 ≤ y ∧ y < 4) (hX : ∀ x, 0 ≤ x → x < 4 → (X x ↔ x = w ∨ x = y)) : gS G a X = fun i => (i = a ∨ i = bX G a w) ∨ i = bX G a y := by
  funext i
  apply propext
  constructor
  · rintro (z | ⟨x, x0, x1, hx, e⟩)
    · exact Or.inl (Or.inl z)
    · rcases (hX x x0 x1).mp hx with q | q
      · rw [q] at e; exact Or.inl (Or.inr e)
      · rw [q] at e; exact Or.inr e
  · rintro ((z | z) | z)
    · exact Or.inl z
    · exact Or.inr ⟨w, w0.1, w0.2, (hX w w0.1 w0.2).mpr (Or.inl rfl), z⟩
    · exact Or.inr ⟨y, y0.1, y0.2, (hX y y0.1 y0.2).mpr (Or.inr rfl), z⟩
theorem fA_00 {E G : Int → Int} {n m : Int} : (fA E G n 0 m = 0 ↔ ¬ fP E G n 0 m) := by
  unfold fA
  by_cases z : fP E G n 0 m
  · rw [if_pos z]; exact ⟨fun q => by omega, fun q => absurd z q⟩
  · rw [if_neg z]; exact ⟨fun _ => z, fun _ => rfl⟩
theorem y4 {u v w : Int} (u0 : 0 ≤ u ∧ u < 4) (v0 : 0 ≤ v ∧ v < 4) (w0 : 0 ≤ w ∧ w < 4) (uv : u ≠ v) (uw : u ≠ w) (vw : v ≠ w) : (0 ≤ 6 - u - v - w ∧ 6 - u - v - w < 4) ∧ u ≠ 6 - u - v - w ∧ v ≠ 6 - u - v - w ∧ w ≠ 6 - u - v - w := by omega
theorem ez_v {t : Int} {G E P : Int → Int} (hB : BP t G E P) (hG : VG t G) {T u v f m T' P' U' V' W' B' : Int} (T0 : 0 ≤ T ∧ T < t) (u0 : 0 ≤ u ∧ u < 4) (v0 : 0 ≤ v ∧ v < 4) (f0 : 0 ≤ f ∧ f < 4) (uv : u ≠ v) (uf' : u ≠ f) (vf : v ≠ f) (he : eg E (16 * T + 4 * u + v) = m) (hfr : fA E G (16 * t) 0 m = 0) (eT : T' = G (4 * T + f) / 32) (eP : P' = G (4 * T + f) % 32) (eU : U' = im P' u) (eV : V' = im P' v) (eW : W' = im P' (6 - u - v - f)) (eB : B' = im P' f) :
    (0 ≤ T' ∧ T' < t) ∧ (0 ≤ P' ∧ P' < 24) ∧ ((0 ≤ U' ∧ U' < 4) ∧ (0 ≤ V' ∧ V' < 4) ∧ (0 ≤ W' ∧ W' < 4)) ∧ (U' ≠ V' ∧ U' ≠ W' ∧ V' ≠ W') ∧ 6 - U' - V' - W' = B' ∧ eg E (16 * T' + 4 * U' + V') = m ∧ nE G f (16 * T + 4 * u + v) = 16 * T' + 4 * U' + V' := by
  obtain ⟨-, -, h1, h2, h3, h4⟩ := ez_s hB hG T0 u0 v0 f0 uv uf' vf he hfr
  obtain ⟨y0, yu, yv, yf⟩ := y4 u0 v0 f0 uv uf' vf
  have s := im_s4 h2.1 h2.2 u0 v0 f0 uv uf' vf
  subst eP
  have a := im_in h2.1 h2.2 u0.1 u0.2
  have b := im_in h2.1 h2.2 v0.1 v0.2
  have c := im_in h2.1 h2.2 y0.1 y0.2
  subst eT eU eV eW eB
  refine ⟨h1, h2, ⟨a, b, c⟩, ⟨fun z => uv (im_ij h2.1 h2.2 u0.1 u0.2 v0.1 v0.2 z), fun z => yu (im_ij h2.1 h2.2 u0.1 u0.2 y0.1 y0.2 z), fun z => yv (im_ij h2.1 h2.2 v0.1 v0.2 y0.1 y0.2 z)⟩, by rw [s]; omega, h3, h4⟩
theorem go3_c {t : Int} {G E P : Int → Int} (hB : BP t G E P) (hG : VG t G) {x u v w T1 P0 W1 T2 : Int} (T0 : 0 ≤ x ∧ x < t) (u0 : 0 ≤ u ∧ u < 4) (v0 : 0 ≤ v ∧ v < 4) (w0 : 0 ≤ w ∧ w < 4) (uv : u ≠ v) (uw : u ≠ w) (vw : v ≠ w) (eT : T1 = G (4 * x + w) / 32) (eP : P0 = G (4 * x + w) % 32) (eW : W1 = im P0 (6 - u - v - w)) (eT2 : T2 = G (4 * T1 + W1) / 32) (hC : C3 t G E (16 * x + 4 * u + v)) : x ≠ T1 ∧ x ≠ T2 ∧ T1 ≠ T2 := by
  obtain ⟨e4, e5, e6, e7⟩ := dgk (tt := x) u0 v0
  obtain ⟨y0, yu, yv, yw⟩ := y4 u0 v0 w0 uv uw vw
  have hk : oE t (16 * x + 4 * u + v) := ⟨by omega, by omega, by rw [e7, e5]; exact uv⟩
  have q := hC.2.2.2 w _ w0.1 w0.2 y0.1 y0.2 (by rw [e7]; exact Ne.symm uw) (by rw [e5]; exact Ne.symm vw) (by rw [e7]; exact Ne.symm yu) (by rw [e5]; exact Ne.symm yv) yw
  have q2 := hC.2.2.2 _ w y0.1 y0.2 w0.1 w0.2 (by rw [e7]; exact Ne.symm yu) (by rw [e5]; exact Ne.symm yv) (by rw [e7]; exact Ne.symm uw) (by rw [e5]; exact Ne.symm vw) (Ne.symm yw)
  have cl := fl_cl3 hG hB hk hC w _ w0.1 w0.2 y0.1 y0.2 (by rw [e7]; exact Ne.symm uw) (by rw [e5]; exact Ne.symm vw) (by rw [e7]; exact Ne.symm yu) (by rw [e5]; exact Ne.symm yv) yw
  have gy := fr_0 hB hG hk hC.2.1 _ y0.1 y0.2 (by rw [e7]; exact Ne.symm yu) (by rw [e5]; exact Ne.symm yv)
  have gx := fr_0 hB hG hk hC.2.1 _ w0.1 w0.2 (by rw [e7]; exact Ne.symm uw) (by rw [e5]; exact Ne.symm vw)
  rw [e6] at gy gx q q2 cl
  have kx := kb4 T0 w0.1 w0.2
  have ky := kb4 T0 y0.1 y0.2
  have py := pt_pt hG ky.1 ky.2.1 gy
  have px := pt_pt hG kx.1 kx.2.1 gx
  have iy := im_in py.2.2.2.2.1 py.2.2.2.2.2.1 w0.1 w0.2
  have ix := im_in px.2.2.2.2.1 px.2.2.2.2.2.1 y0.1 y0.2
  have ecl : pt G (4 * (G (4 * x + w) / 32) + im (G (4 * x + w) % 32) (6 - u - v - w)) = 4 * (G (4 * x + (6 - u - v - w)) / 32) + im (G (4 * x + (6 - u - v - w)) % 32) w := cl.2
  have gg : 0 ≤ G (4 * (G (4 * x + w) / 32) + im (G (4 * x + w) % 32) (6 - u - v - w)) := cl.1
  have tb : 0 ≤ G (4 * x + w) / 32 ∧ G (4 * x + w) / 32 < t := by
    have := px.2.2.1
    have := px.1
    have := px.2.1
    clear q q2 uv uw vw yu yv yw cl
    omega
  have kz := kb4 tb ix.1 ix.2
  have pz := pt_pt hG kz.1 kz.2.1 gg
  have e2 : T2 = G (4 * x + (6 - u - v - w)) / 32 := by
    rw [eT2, eT, eW, eP, ← pz.2.2.1, ecl]
    clear q q2 uv uw vw yu yv yw cl
    omega
  rw [e2, eT]
  exact ⟨q.1, q2.1, q.2⟩
theorem go3_d {t : Int} {G E P : Int → Int} (hB : BP t G E P) (hG : VG t G) {x u v w T1 P0 U1 V1 W1 T2 P1 U2 V2 : Int} (T0 : 0 ≤ x ∧ x < t) (u0 : 0 ≤ u ∧ u < 4) (v0 : 0 ≤ v ∧ v < 4) (w0 : 0 ≤ w ∧ w < 4) (uv : u ≠ v) (uw : u ≠ w) (vw : v ≠ w) (hdeg : dA E (16 * t) (eg E (16 * x + 4 * u + v)) = 3) (hfa : fA E G (16 * t) 0 (eg E (16 * x + 4 * u + v)) = 0) (hrev : E (16 * x + 4 * u + v) ≠ E (tr (16 * x + 4 * u + v))) (eT : T1 = G (4 * x + w) / 32) (eP : P0 = G (4 * x + w) % 32) (eW : W1 = im P0 (6 - u - v - w)) (eT2 : T2 = G (4 * T1 + W1) / 32) (n0 : nE G w (16 * x + 4 * u + v) = 16 * T1 + 4 * U1 + V1) (n1 : nE G W1 (16 * T1 + 4 * U1 + V1) = 16 * T2 + 4 * U2 + V2) (d1 : x ≠ T1) (d2 : x ≠ T2) (d3 : T1 ≠ T2) :
    C3 t G E (16 * x + 4 * u + v) ∧ 16 * bX G x (6 - u - v - w) + 4 * im (pX G x (6 - u - v - w)) u + im (pX G x (6 - u - v - w)) v = 16 * T2 + 4 * U2 + V2 := by
  obtain ⟨e4, e5, e6, e7⟩ := dgk (tt := x) u0 v0
  obtain ⟨y0, yu, yv, yw⟩ := y4 u0 v0 w0 uv uw vw
  have hk : oE t (16 * x + 4 * u + v) := ⟨by omega, by omega, by rw [e7, e5]; exact uv⟩
  have fXe : fX G ((16 * x + 4 * u + v) / 16) w (6 - u - v - w) = 4 * T1 + W1 := by rw [e6, eT, eW, eP]; rfl
  have e3 := edge3 hG hB hk hdeg hfa w0.1 w0.2 y0.1 y0.2 (by rw [e7]; exact Ne.symm uw) (by rw [e5]; exact Ne.symm vw) (by rw [e7]; exact Ne.symm yu) (by rw [e5]; exact Ne.symm yv) yw (by rw [e6, ← eT]; exact Ne.symm d1) (by rw [fXe, e6, ← eT2]; exact Ne.symm d2) (by rw [fXe, e6, ← eT2, ← eT]; exact Ne.symm d3)
  have q := e3.2 hrev
  rw [e6, ← eP, ← eW, n0, n1] at q
  have gy := fr_0 hB hG hk hfa _ y0.1 y0.2 (by rw [e7]; exact Ne.symm yu) (by rw [e5]; exact Ne.symm yv)
  rw [e6] at gy
  have na := nE_at (G := G) (f := 6 - u - v - w) (x := 16 * x + 4 * u + v) (by rw [e7, e5, e6]; exact fun z => z.elim (fun z => yu z.symm) (fun z => z.elim (fun z => yv z.symm) (fun z => by omega)))
  rw [e6, e7, e5] at na
  exact ⟨⟨hdeg, hfa, fun z => hrev ((rev_eg hB hG hk).mp z), e3.1⟩, na.symm.trans q⟩
theorem dg3 {A B U V U' V' : Int} (u0 : 0 ≤ U ∧ U < 4) (v0 : 0 ≤ V ∧ V < 4) (u0' : 0 ≤ U' ∧ U' < 4) (v0' : 0 ≤ V' ∧ V' < 4) (h : 16 * A + 4 * U + V = 16 * B + 4 * U' + V') : A = B ∧ U = U' ∧ V = V' := by omega
theorem go3_l {t : Int} {G : Int → Int} (hG : VG t G) {x u v w T1 P0 U1 V1 W1 T2 P1 U2 V2 W2 : Int} {X : Int → Prop} {nw : Int → Int} {s t' : Int} (h1 : FL t G x X nw s t') (u0 : 0 ≤ u ∧ u < 4) (v0 : 0 ≤ v ∧ v < 4) (w0 : 0 ≤ w ∧ w < 4) (uv : u ≠ v) (uw : u ≠ w) (vw : v ≠ w) (Xw : X w) (Xy : X (6 - u - v - w)) (eT : T1 = G (4 * x + w) / 32) (eP : P0 = G (4 * x + w) % 32) (eW : W1 = im P0 (6 - u - v - w)) (eP1 : P1 = G (4 * T1 + W1) % 32) (t1 : 0 ≤ T1 ∧ T1 < t) (g1 : 0 ≤ G (4 * T1 + W1)) (u1 : 0 ≤ U1 ∧ U1 < 4) (v1 : 0 ≤ V1 ∧ V1 < 4) (w1 : 0 ≤ W1 ∧ W1 < 4) (p1 : 0 ≤ P1 ∧ P1 < 24) (uv1 : U1 ≠ V1 ∧ U1 ≠ W1 ∧ V1 ≠ W1) (eU2 : U2 = im P1 U1) (eV2 : V2 = im P1 V1) (eW2 : W2 = im P1 (6 - U1 - V1 - W1)) (hn : 16 * bX G x (6 - u - v - w) + 4 * im (pX G x (6 - u - v - w)) u + im (pX G x (6 - u - v - w)) v = 16 * T2 + 4 * U2 + V2) : bX G x (6 - u - v - w) = T2 ∧ im (pX G x (6 - u - v - w)) u = U2 ∧ im (pX G x (6 - u - v - w)) v = V2 ∧ im (pX G x (6 - u - v - w)) (6 - u - v - w) = W2 := by
  obtain ⟨y0, yu, yv, yw⟩ := y4 u0 v0 w0 uv uw vw
  have b := bx_in hG h1 y0.1 y0.2 Xy
  have hp : 0 ≤ pX G x (6 - u - v - w) ∧ pX G x (6 - u - v - w) < 24 := ⟨b.2.2.1, b.2.2.2.1⟩
  have iu := im_in hp.1 hp.2 u0.1 u0.2
  have iv' := im_in hp.1 hp.2 v0.1 v0.2
  have iw := im_in hp.1 hp.2 w0.1 w0.2
  have ju := im_in p1.1 p1.2 u1.1 u1.2
  have jv := im_in p1.1 p1.2 v1.1 v1.2
  have jw := im_in p1.1 p1.2 w1.1 w1.2
  obtain ⟨a1, a2, a3⟩ := dg3 iu iv' (by rw [eU2]; exact ju) (by rw [eV2]; exact jv) hn
  refine ⟨a1, a2, a3, ?_⟩
  have f3 := (h1.2.2.1 w _ w0.1 w0.2 y0.1 y0.2 Xw Xy yw).2.2
  have ef : fX G x w (6 - u - v - w) = 4 * T1 + W1 := by rw [eT, eW, eP]; rfl
  rw [ef] at f3
  have kz := kb4 t1 w1.1 w1.2
  have pz := pt_pt hG kz.1 kz.2.1 g1
  have c := pz.2.2.2.1
  rw [f3, kz.2.2, ← eP1] at c
  have c' : im (pX G x (6 - u - v - w)) w = im P1 W1 := by
    rw [← c]
    show _ = (4 * bX G x (6 - u - v - w) + im (pX G x (6 - u - v - w)) w) % 4
    clear hn uv uw vw yu yv yw uv1 c f3
    omega
  rw [eW2, im_s4 p1.1 p1.2 u1 v1 w1 uv1.1 uv1.2.1 uv1.2.2, im_s4 hp.1 hp.2 u0 v0 w0 uv uw vw, a2, a3, c', eU2, eV2]
theorem lfg_three {G : Int → Int} {x u v w : Int} {X : Int → Prop} {go gl L1 L2 L3 : Int → Int} {U1 V1 W1 U2 V2 W2 P0 P1 : Int} (u0 : 0 ≤ u ∧ u < 4) (v0 : 0 ≤ v ∧ v < 4) (w0 : 0 ≤ w ∧ w < 4) (uv : u ≠ v) (uw : u ≠ w) (vw : v ≠ w) (hX : ∀ c, 0 ≤ c → c < 4 → (X c ↔ c ≠ u ∧ c ≠ v)) (hp0 : 0 ≤ P0 ∧ P0 < 24) (hp1 : 0 ≤ P1 ∧ P1 < 24) (eP0 : pX G x w = P0) (eP1 : pX G x (6 - u - v - w) = P1) (g0 : go 0 = x) (g1 : go 1 = bX G x w) (g2 : go 2 = bX G x (6 - u - v - w))
    (l1 : ∀ c, 0 ≤ c → c < 4 → gl c = uf4 L1 u v w (6 - u - v - w) 3 4 0 1 c) (l2 : ∀ c, 0 ≤ c → c < 4 → gl (4 * 1 + c) = uf4 L2 U1 V1 W1 (6 - U1 - V1 - W1) 3 4 1 2 c) (l3 : ∀ c, 0 ≤ c → c < 4 → gl (4 * 2 + c) = uf4 L3 U2 V2 W2 (6 - U2 - V2 - W2) 3 4 2 0 c)
    (eU1 : U1 = im P0 u) (eV1 : V1 = im P0 v) (eW1 : W1 = im P0 (6 - u - v - w)) (eU2 : im P1 u = U2) (eV2 : im P1 v = V2) (eW2 : im P1 (6 - u - v - w) = W2) : LFG G x X go gl 3 (la3 u v w) 2 (fun c => if c = w then 1 else 2) := by
  obtain ⟨y0, yu, yv, yw⟩ := y4 u0 v0 w0 uv uw vw
  have lk := la3_ok u0 v0 w0 uv uw vw
  refine ⟨⟨by decide, lk⟩, ⟨by decide, by decide, g0, fun c c0 c1 => ?_⟩, fun c c0 c1 hc => ?_, fun i i0 i1 => ?_⟩
  · have q := lb3 (L := L1) (p := 0) (wu := 3) (wv := 4) (wx := 0) (wy := 1) (by decide) u0 v0 w0 uv uw vw ⟨c0, c1⟩
    rw [im_id u0.1 u0.2, im_id v0.1 v0.2, im_id w0.1 w0.2, im_id c0 c1] at q
    rw [l1 c c0 c1, q]
    rfl
  · have hc' := (hX c c0 c1).mp hc
    by_cases z : c = w
    · subst z
      simp only [if_pos]
      refine ⟨by decide, by decide, g1, fun c' c0' c1' => ?_⟩
      have wi := im_in hp0.1 hp0.2 c0' c1'
      have q := lb3 (L := L2) (wu := 3) (wv := 4) (wx := 1) (wy := 2) hp0 u0 v0 y0 uv yu yv ⟨c0', c1'⟩
      rw [eP0, l2 _ wi.1 wi.2, eU1, eV1, eW1, q]
      unfold la3
      by_cases s1 : c' = u
      · rw [if_pos s1, if_neg (fun e => uw (s1.symm.trans e)), if_pos s1]
      · by_cases s2 : c' = v
        · rw [if_neg s1, if_pos s2, if_neg (fun e => vw (s2.symm.trans e)), if_neg s1, if_pos s2]
        · by_cases s3 : c' = c
          · rw [if_neg s1, if_neg s2, if_neg (fun e => yw (s3.symm.trans e)), if_pos s3]
          · rw [if_neg s1, if_neg s2, if_pos (show c' = 6 - u - v - c by clear q l1 l2 l3; omega), if_neg s3, if_neg s1, if_neg s2, if_neg s3]
    · have ey : c = 6 - u - v - w := by clear l1 l2 l3; omega
      simp only [if_neg z]
      rw [ey]
      refine ⟨by decide, by decide, g2, fun c' c0' c1' => ?_⟩
      have wi := im_in hp1.1 hp1.2 c0' c1'
      have q := lb3 (L := L3) (wu := 3) (wv := 4) (wx := 2) (wy := 0) hp1 u0 v0 y0 uv yu yv ⟨c0', c1'⟩
      rw [eU2, eV2, eW2] at q
      rw [eP1, l3 _ wi.1 wi.2, q]
      unfold la3
      by_cases s1 : c' = u
      · rw [if_pos s1, if_neg (fun e => yu (s1.symm.trans e)), if_pos s1]
      · by_cases s2 : c' = v
        · rw [if_neg s1, if_pos s2, if_neg (fun e => yv (s2.symm.trans e)), if_neg s1, if_pos s2]
        · by_cases s3 : c' = 6 - u - v - w
          · rw [if_neg s1, if_neg s2, if_pos s3, if_pos s3]
          · rw [if_neg s1, if_neg s2, if_neg s3, if_neg s3, if_neg s1, if_neg s2, if_pos (show c' = w by clear q l1 l2 l3; omega)]
  · rcases (show i = 1 ∨ i = 2 by omega) with z | z
    · exact ⟨w, w0.1, w0.2, (hX w w0.1 w0.2).mpr ⟨Ne.symm uw, Ne.symm vw⟩, by simp only [if_pos]; exact z.symm⟩
    · exact ⟨6 - u - v - w, y0.1, y0.2, (hX _ y0.1 y0.2).mpr ⟨Ne.symm yu, Ne.symm yv⟩, by simp only [if_neg (Ne.symm yw)]; exact z.symm⟩
theorem x4 {u v w c : Int} (u0 : 0 ≤ u ∧ u < 4) (v0 : 0 ≤ v ∧ v < 4) (w0 : 0 ≤ w ∧ w < 4) (uv : u ≠ v) (uw : u ≠ w) (vw : v ≠ w) (c0 : 0 ≤ c ∧ c < 4) : (c ≠ u ∧ c ≠ v) ↔ (c = w ∨ c = 6 - u - v - w) := by omega
theorem plc_3 {t : Int} {G E P : Int → Int} (_hB : BP t G E P) (ht : 1 ≤ t ∧ t ≤ 8) {x u v a : Int} {X : Int → Prop} (T0 : 0 ≤ x ∧ x < t) (u0 : 0 ≤ u ∧ u < 4) (v0 : 0 ≤ v ∧ v < 4) (uv : u ≠ v) (pl : PLC (32 + lw (16 * x + 4 * u + v)) a X) : a = x ∧ ∀ c, 0 ≤ c → c < 4 → (X c ↔ c ≠ u ∧ c ≠ v) := by
  obtain ⟨e4, e5, e6, e7⟩ := dgk (tt := x) u0 v0
  have hk : oE t (16 * x + 4 * u + v) := ⟨by omega, by omega, by rw [e7, e5]; exact uv⟩
  obtain ⟨l1, l2, l3, l4, l5, l6⟩ := lw_ok (E := E) hk
  obtain ⟨p1, p2, p3⟩ := tr_p (16 * x + 4 * u + v)
  generalize lw (16 * x + 4 * u + v) = q at *
  rcases pl with z | z | z | z
  · exfalso; clear l3 uv; omega
  · rw [show 32 + q - 32 = q by omega] at z
    obtain ⟨-, -, z3, -, z5⟩ := z
    refine ⟨by rw [z3, l5, e6], fun c c0 c1 => ?_⟩
    rw [z5 c c0 c1]
    rcases l6 with w | w
    · rw [w, e7, e5]
    · rw [w, p2, p3, e7, e5]
      exact ⟨fun q => ⟨q.2, q.1⟩, fun q => ⟨q.2, q.1⟩⟩
  · exfalso; clear l3 uv; omega
  · exfalso; clear l3 uv; omega
theorem s3e {t s : Int} (h : s = t - 3) : t - 1 = s + 2 := by omega
theorem uf2_r {go : Int → Int} {x y : Int} (hx : 0 ≤ x ∧ x < 8) (hy : 0 ≤ y ∧ y < 8) : ∀ i, 0 ≤ i → i < 2 → 0 ≤ (uf (uf go 0 x) 1 y) i ∧ (uf (uf go 0 x) 1 y) i < 8 := fun i i0 i1 => by
  rcases (show i = 0 ∨ i = 1 by omega) with z | z
  · rw [z, uf_n (by decide), uf_s]; exact hx
  · rw [z, uf_s]; exact hy
theorem uf1_r {go : Int → Int} {x : Int} (hx : 0 ≤ x ∧ x < 8) : ∀ i, 0 ≤ i → i < 1 → 0 ≤ (uf go 0 x) i ∧ (uf go 0 x) i < 8 := fun i i0 i1 => by
  rw [show i = 0 by omega, uf_s]; exact hx
theorem uf1_e {go : Int → Int} {x y : Int} (h : ∃ i, 0 ≤ i ∧ i < 1 ∧ (uf go 0 x) i = y) : x = y := by
  obtain ⟨i, i0, i1, e⟩ := h
  rw [show i = 0 by omega, uf_s] at e; exact e
theorem uf2_e {go : Int → Int} {x y z : Int} (h : ∃ i, 0 ≤ i ∧ i < 2 ∧ (uf (uf go 0 x) 1 y) i = z) : x = z ∨ y = z := by
  obtain ⟨i, i0, i1, e⟩ := h
  rcases (show i = 0 ∨ i = 1 by omega) with q | q
  · rw [q, uf_n (by decide), uf_s] at e; exact Or.inl e
  · rw [q, uf_s] at e; exact Or.inr e
theorem t8 {x t : Int} (ht : 1 ≤ t ∧ t ≤ 8) (h : 0 ≤ x ∧ x < t) : 0 ≤ x ∧ x < 8 := by omega
set_option maxHeartbeats 2000000 in
theorem c_X12_goThree {h : ma_H} {b nx d : Nat} {t x u v : Int} {G Aa C : Int → Int} {Q : Option ma_V → ma_H → Nat → Prop} {I : Nat → Int} (hM : h 73 = co 12 (mo I)) (hS : SMO h) (hb : h b = ci 33 Aa) (nb : mlen b = 0 ∧ b ≠ 77 ∧ b ≠ 73) (hG : VG t G) (hA : AG t G Aa) (rx : rg x) (ru : rg u) (rv : rg v) (hMR : (0 ≤ x ∧ x < t ∧ 0 ≤ u ∧ u < 4 ∧ 0 ≤ v ∧ v < 4 ∧ u ≠ v) → ∀ E P, BP t G E P → C3 t G E (16 * x + 4 * u + v) → MR t G (32 + lw (16 * x + 4 * u + v)) (t - 1) C) (K1 : ¬ (0 ≤ x ∧ x < t ∧ 0 ≤ u ∧ u < 4 ∧ 0 ≤ v ∧ v < 4 ∧ u ≠ v) → Q (some (vi (-1))) h nx) (K2 : (0 ≤ x ∧ x < t ∧ 0 ≤ u ∧ u < 4 ∧ 0 ≤ v ∧ v < 4 ∧ u ≠ v) → ∀ E P, BP t G E P → ¬ C3 t G E (16 * x + 4 * u + v) → ∀ h' I', MP h h' b I I' → h' b = ci 33 Aa → Q (some (vi (-2))) h' nx) (K0 : (0 ≤ x ∧ x < t ∧ 0 ≤ u ∧ u < 4 ∧ 0 ≤ v ∧ v < 4 ∧ u ≠ v) → ∀ E P, BP t G E P → C3 t G E (16 * x + 4 * u + v) → ∀ h' I' TH C', MP h h' b I I' → h' b = ci 33 TH → AG (t - 1) C' TH → (∃ m r sg, IS (t - 1) C C' m r sg) → (∀ k, 4 * (t - 1) ≤ k → C' k = -1) → Q (some (vi 0)) h' nx) : ma_Ct mX12_goThree (d + 4) 0 0 [vr 73, vr b, vi x, vi u, vi v] h nx Q := by
  have ht := hG.1
  have nbk := nb_k nb
  have rx' := rx
  unfold rg at rx'
  obtain ⟨f86, g86⟩ : ∃ f, h 86 = ci 128 f := hS.1 86 (by decide)
  obtain ⟨f87, g87⟩ : ∃ f, h 87 = ci 32 f := hS.1 87 (by decide)
  refine ma_Ct.of (by decide +kernel) (Nat.le_of_ble_eq_true rfl) ?_
  refine ma_iload_n dX12_goThree_0 rfl ?_
  refine ma_iconst dX12_goThree_1 ?_
  refine ma_aload_n dX12_goThree_2 rfl ?_
  refine ma_iconst dX12_goThree_3 ?_
  refine ma_iald dX12_goThree_4 (by first | assumption | exact ma_up_s _ _ _ | exact (ma_up_n (by first | decide | omega)).trans (by assumption) | exact (ma_up_n (by first | decide | omega)).trans (ma_up_s _ _ _) | exact (ma_up_n (by first | decide | omega)).trans ((ma_up_n (by first | decide | omega)).trans (by assumption))) (by omega) (by omega) (by omega) ?_
  rw [hA.1]
  refine ma_iconst dX12_goThree_5 ?_
  refine ma_isub dX12_goThree_6 ?_
  refine ma_cS [_, _, _] dX12_goThree_7 wX12_in lX12_179 tX12_in (Nat.le_of_ble_eq_true rfl) ?_
  refine c_X12_in rx (by unfold rg; omega) (by unfold rg; omega) (fun a1 a2 => ?_) (fun a1 => ?_)
  · -- k1
    refine ma_rif_eq 22 dX12_goThree_10 rfl (by decide) (fun c10 => absurd c10 (by decide)) (fun c10 => ?_)
    refine ma_iload_n dX12_goThree_13 rfl ?_
    refine ma_iload dX12_goThree_14 rfl ?_
    refine ma_cS [_, _] dX12_goThree_16 wX12_arePair lX12_265 tX12_arePair (Nat.le_of_ble_eq_true rfl) ?_
    refine c_X12_arePair ru rv (fun u0 v0 uv => ?_) (fun b1 => ?_)
    · -- k1
      refine ma_rif_ne 24 dX12_goThree_19 rfl (by decide) (fun c19 => ?_) (fun c19 => absurd c19 (by decide))
      refine ma_aload_n dX12_goThree_24 rfl ?_
      refine ma_aload_n dX12_goThree_25 rfl ?_
      refine ma_cV [_] dX12_goThree_26 wX12_layJoined lX12_269 iX12_layJoined sX12_layJoined rfl (by first | assumption | exact ma_up_s _ _ _ | exact (ma_up_n (by first | decide | omega)).trans (by assumption) | exact (ma_up_n (by first | decide | omega)).trans (ma_up_s _ _ _) | exact (ma_up_n (by first | decide | omega)).trans ((ma_up_n (by first | decide | omega)).trans (by assumption))) (Nat.le_of_ble_eq_true rfl) ?_
      refine c_X12_layJoined hM hb ⟨nbk 86 (by decide), nbk 87 (by decide)⟩ hG hA g86 g87 (fun E P F R hB => ?_)
      have okk : (0 ≤ x ∧ x < t ∧ 0 ≤ u ∧ u < 4 ∧ 0 ≤ v ∧ v < 4 ∧ u ≠ v) := ⟨by omega, by omega, u0.1, u0.2, v0.1, v0.2, uv⟩
      have T0 : 0 ≤ x ∧ x < t := ⟨by omega, by omega⟩
      have ebb := eg_b hB T0 u0 v0 uv
      refine ma_aload_n dX12_goThree_29 rfl ?_
      refine ma_iload_n dX12_goThree_30 rfl ?_
      refine ma_iload_n dX12_goThree_31 rfl ?_
      refine ma_iload dX12_goThree_32 rfl ?_
      refine ma_cV [_, _, _] dX12_goThree_34 wX12_edgeOf lX12_258 iX12_edgeOf sX12_edgeOf rfl (by first | assumption | exact ma_up_s _ _ _ | exact (ma_up_n (by first | decide | omega)).trans (by assumption) | exact (ma_up_n (by first | decide | omega)).trans (ma_up_s _ _ _) | exact (ma_up_n (by first | decide | omega)).trans ((ma_up_n (by first | decide | omega)).trans (by assumption))) (Nat.le_of_ble_eq_true rfl) ?_
      refine c_X12_edgeOf ((ma_up_n (by first | decide | omega)).trans ((ma_up_n (by first | decide | omega)).trans hM)) ((ma_up_n (by decide)).trans (ma_up_s _ _ _)) hG hB T0 u0 v0 uv ?_
      refine ma_istoreN dX12_goThree_37 (by decide) rfl ?_
      refine ma_aload_n dX12_goThree_39 rfl ?_
      refine ma_aload_n dX12_goThree_40 rfl ?_
      refine ma_iload dX12_goThree_41 rfl ?_
      refine ma_cV [_, _] dX12_goThree_43 wX12_isFree lX12_272 iX12_isFree sX12_isFree rfl (by first | assumption | exact ma_up_s _ _ _ | exact (ma_up_n (by first | decide | omega)).trans (by assumption) | exact (ma_up_n (by first | decide | omega)).trans (ma_up_s _ _ _) | exact (ma_up_n (by first | decide | omega)).trans ((ma_up_n (by first | decide | omega)).trans (by assumption))) (Nat.le_of_ble_eq_true rfl) ?_
      refine c_X12_isFree ((ma_up_n (by first | decide | omega)).trans ((ma_up_n (by first | decide | omega)).trans hM)) ((ma_up_n (nbk 87 (by decide))).trans ((ma_up_n (nbk 86 (by decide))).trans hb)) hG hA ((ma_up_n (by decide)).trans (ma_up_s _ _ _)) (ma_up_s _ _ _) hB (by unfold rg; omega) (fun hfr => ?_) (fun hfr => ?_)
      · -- k1
        refine ma_rif_ne 71 dX12_goThree_46 rfl (by decide) (fun c46 => ?_) (fun c46 => absurd c46 (by decide))
        refine ma_bipush dX12_goThree_71 ?_
        exact ma_iret dX12_goThree_73 rfl (K2 okk E P hB.1 (fun z => fA_00.mp z.2.1 hfr) _ _ ⟨by repeat (first | exact kp_rf _ _ | assumption | refine kp_up (by simp) ?_), (ma_up_n (by decide)).trans ((ma_up_n (by decide)).trans (hM)), by repeat (first | exact ki_rf _ | refine ki_u ?_ (by decide)), by repeat (first | assumption | refine smo_n (by first | decide | exact nb.1) (by first | decide | exact nb.2.1) ?_ | refine smo_a rfl (by decide) ?_)⟩ ((ma_up_n (nbk 87 (by decide))).trans ((ma_up_n (nbk 86 (by decide))).trans (hb))))
      · -- k0
        refine ma_rif_ne 71 dX12_goThree_46 rfl (by decide) (fun c46 => absurd c46 (by decide)) (fun c46 => ?_)
        refine ma_aload_n dX12_goThree_49 rfl ?_
        refine ma_iload_n dX12_goThree_50 rfl ?_
        refine ma_iload_n dX12_goThree_51 rfl ?_
        refine ma_iload dX12_goThree_52 rfl ?_
        refine ma_cV [_, _, _] dX12_goThree_54 wX12_isReversed lX12_276 iX12_isReversed sX12_isReversed rfl (by first | assumption | exact ma_up_s _ _ _ | exact (ma_up_n (by first | decide | omega)).trans (by assumption) | exact (ma_up_n (by first | decide | omega)).trans (ma_up_s _ _ _) | exact (ma_up_n (by first | decide | omega)).trans ((ma_up_n (by first | decide | omega)).trans (by assumption))) (Nat.le_of_ble_eq_true rfl) ?_
        refine c_X12_isReversed ((ma_up_n (by first | decide | omega)).trans ((ma_up_n (by first | decide | omega)).trans hM)) ((ma_up_n (by decide)).trans (ma_up_s _ _ _)) hG hB T0 u0 v0 uv (fun hrev => ?_) (fun hrev => ?_)
        · -- k1
          refine ma_rif_ne 71 dX12_goThree_57 rfl (by decide) (fun c57 => ?_) (fun c57 => absurd c57 (by decide))
          refine ma_bipush dX12_goThree_71 ?_
          exact ma_iret dX12_goThree_73 rfl (K2 okk E P hB.1 (fun z => z.2.2.1 ((rev_eg hB.1 hG (bq_E hB T0 u0 v0 uv).1).mpr hrev)) _ _ ⟨by repeat (first | exact kp_rf _ _ | assumption | refine kp_up (by simp) ?_), (ma_up_n (by decide)).trans ((ma_up_n (by decide)).trans (hM)), by repeat (first | exact ki_rf _ | refine ki_u ?_ (by decide)), by repeat (first | assumption | refine smo_n (by first | decide | exact nb.1) (by first | decide | exact nb.2.1) ?_ | refine smo_a rfl (by decide) ?_)⟩ ((ma_up_n (nbk 87 (by decide))).trans ((ma_up_n (nbk 86 (by decide))).trans (hb))))
        · -- k0
          refine ma_rif_ne 71 dX12_goThree_57 rfl (by decide) (fun c57 => absurd c57 (by decide)) (fun c57 => ?_)
          refine ma_aload_n dX12_goThree_60 rfl ?_
          refine ma_aload_n dX12_goThree_61 rfl ?_
          refine ma_iload dX12_goThree_62 rfl ?_
          refine ma_cV [_, _] dX12_goThree_64 wX12_degreeOf lX12_279 iX12_degreeOf sX12_degreeOf rfl (by first | assumption | exact ma_up_s _ _ _ | exact (ma_up_n (by first | decide | omega)).trans (by assumption) | exact (ma_up_n (by first | decide | omega)).trans (ma_up_s _ _ _) | exact (ma_up_n (by first | decide | omega)).trans ((ma_up_n (by first | decide | omega)).trans (by assumption))) (Nat.le_of_ble_eq_true rfl) ?_
          refine c_X12_degreeOf ((ma_up_n (by first | decide | omega)).trans ((ma_up_n (by first | decide | omega)).trans hM)) ((ma_up_n (nbk 87 (by decide))).trans ((ma_up_n (nbk 86 (by decide))).trans hb)) hG hA ((ma_up_n (by decide)).trans (ma_up_s _ _ _)) (ma_up_s _ _ _) hB (by unfold rg; omega) ?_
          have dgb := ct_in (dP E (eg E (16 * x + 4 * u + v))) (16 * t).toNat
          have hdd : dA E (16 * t) (eg E (16 * x + 4 * u + v)) = ct (dP E (eg E (16 * x + 4 * u + v))) (16 * t).toNat := rfl
          refine ma_iconst dX12_goThree_67 ?_
          refine ma_rcmp_eq 74 dX12_goThree_68 rfl (by constructor <;> omega) (by decide) (fun c68 => ?_) (fun c68 => ?_)
          · -- 74
            refine ma_aload_n dX12_goThree_74 rfl ?_
            refine ma_cV [] dX12_goThree_75 wX12_beginMove lX12_402 iX12_beginMove sX12_beginMove rfl (by first | assumption | exact ma_up_s _ _ _ | exact (ma_up_n (by first | decide | omega)).trans (by assumption) | exact (ma_up_n (by first | decide | omega)).trans (ma_up_s _ _ _) | exact (ma_up_n (by first | decide | omega)).trans ((ma_up_n (by first | decide | omega)).trans (by assumption))) (Nat.le_of_ble_eq_true rfl) ?_
            refine c_X12_beginMove ((ma_up_n (by first | decide | omega)).trans ((ma_up_n (by first | decide | omega)).trans hM)) ?_
            refine ma_iload_n dX12_goThree_78 rfl ?_
            refine ma_istoreN dX12_goThree_79 (by decide) rfl ?_
            refine ma_iload_n dX12_goThree_81 rfl ?_
            refine ma_istoreN dX12_goThree_82 (by decide) rfl ?_
            refine ma_iload dX12_goThree_84 rfl ?_
            refine ma_istoreN dX12_goThree_86 (by decide) rfl ?_
            refine ma_iconst dX12_goThree_88 ?_
            refine ma_istoreN dX12_goThree_89 (by decide) rfl ?_
            refine l_go3_91 u0 v0 (fun w w0 w1 wu wv => ?_) 5 0 (by omega) (by omega) (fun c' a0 a1 => by omega)
            have w01 : 0 ≤ w ∧ w < 4 := ⟨w0, w1⟩
            have uw := Ne.symm wu
            have vw := Ne.symm wv
            have hdeg : dA E (16 * t) (eg E (16 * x + 4 * u + v)) = 3 := c68
            have hfa : fA E G (16 * t) 0 (eg E (16 * x + 4 * u + v)) = 0 := fA_00.mpr hfr
            obtain ⟨oz0, gz0, -⟩ := ez_s hB.1 hG T0 u0 v0 w01 uv uw vw rfl hfa
            obtain ⟨go0, g92⟩ : ∃ f, h 92 = ci 4 f := hS.1 92 (by decide)
            obtain ⟨gl0, g93⟩ : ∃ f, h 93 = ci 16 f := hS.1 93 (by decide)
            obtain ⟨cl0, g94⟩ : ∃ f, h 94 = ci 16 f := hS.1 94 (by decide)
            obtain ⟨lb0, g97⟩ : ∃ f, h 97 = ci 4 f := hS.1 97 (by decide)
            refine ma_iconst dX12_goThree_111 ?_
            refine ma_istoreN dX12_goThree_112 (by decide) rfl ?_
            refine l_go3_s0 ((ma_up_s _ _ _)) rfl ((ma_up_n (by decide)).trans ((ma_up_n (by decide)).trans ((ma_up_n (by decide)).trans (g92)))) ((ma_up_n (by decide)).trans ((ma_up_n (by decide)).trans ((ma_up_n (by decide)).trans (g93)))) ((ma_up_n (by decide)).trans ((ma_up_n (by decide)).trans ((ma_up_n (by decide)).trans (g97)))) ((ma_up_n (nbk 73 (by decide))).trans ((ma_up_n (nbk 87 (by decide))).trans ((ma_up_n (nbk 86 (by decide))).trans (hb)))) nb hG hA (fun i i0 i1 => by omega) T0 u0 v0 w01 uv uw vw gz0 (fun hex => by obtain ⟨i, i0, i1, -⟩ := hex; omega) (fun T1 P0 U1 V1 W1 B1 eT1 eP0 eU1 eV1 eW1 eB1 hne0 => ?_)
            obtain ⟨t1, p0, ⟨iu1, iv1, iw1⟩, dd1, es1, ee1, nn1⟩ := ez_v hB.1 hG T0 u0 v0 w01 uv uw vw rfl hfa eT1 eP0 eU1 eV1 eW1 eB1
            obtain ⟨oz1, gz1, -⟩ := ez_s hB.1 hG t1 iu1 iv1 iw1 dd1.1 dd1.2.1 dd1.2.2 ee1 hfa
            have hc := fun T2 eT2 hC => go3_c (T2 := T2) hB.1 hG T0 u0 v0 w01 uv uw vw eT1 eP0 eW1 eT2 hC
            refine l_go3_s1 ((ma_up_s _ _ _)) rfl ((ma_up_n (by decide)).trans ((ma_up_n (by decide)).trans ((ma_up_s _ _ _)))) ((ma_up_n (by decide)).trans ((ma_up_s _ _ _))) ((ma_up_n (by decide)).trans ((ma_up_n (by decide)).trans ((ma_up_n (by decide)).trans ((ma_up_s _ _ _))))) ((ma_up_n (nbk 73 (by decide))).trans ((ma_up_n (nbk 93 (by decide))).trans ((ma_up_n (nbk 92 (by decide))).trans ((ma_up_n (nbk 97 (by decide))).trans ((ma_up_n (nbk 73 (by decide))).trans ((ma_up_n (nbk 87 (by decide))).trans ((ma_up_n (nbk 86 (by decide))).trans (hb)))))))) nb hG hA (uf1_r (t8 ht T0)) t1 iu1 iv1 iw1 dd1.1 dd1.2.1 dd1.2.2 gz1 (fun hex => (K2 okk E P hB.1 (fun z => (hc _ rfl z).1 (uf1_e hex)) _ _ ⟨by repeat (first | exact kp_rf _ _ | assumption | refine kp_up (by simp) ?_), (ma_up_s _ _ _), by repeat (first | exact ki_rf _ | refine ki_u ?_ (by decide)), by repeat (first | assumption | refine smo_n (by first | decide | exact nb.1) (by first | decide | exact nb.2.1) ?_ | refine smo_a rfl (by decide) ?_)⟩ ((ma_up_n (nbk 73 (by decide))).trans ((ma_up_n (nbk 93 (by decide))).trans ((ma_up_n (nbk 92 (by decide))).trans ((ma_up_n (nbk 97 (by decide))).trans ((ma_up_n (nbk 73 (by decide))).trans ((ma_up_n (nbk 87 (by decide))).trans ((ma_up_n (nbk 86 (by decide))).trans (hb)))))))))) (fun T2 P1 U2 V2 W2 B2 eT2 eP1 eU2 eV2 eW2 eB2 hne1 => ?_)
            obtain ⟨t2, p1, ⟨iu2, iv2, iw2⟩, dd2, es2, ee2, nn2⟩ := ez_v hB.1 hG t1 iu1 iv1 iw1 dd1.1 dd1.2.1 dd1.2.2 ee1 hfa eT2 eP1 eU2 eV2 eW2 eB2
            obtain ⟨oz2, gz2, -⟩ := ez_s hB.1 hG t2 iu2 iv2 iw2 dd2.1 dd2.2.1 dd2.2.2 ee2 hfa
            refine l_go3_s2 ((ma_up_s _ _ _)) rfl ((ma_up_n (by decide)).trans ((ma_up_n (by decide)).trans ((ma_up_s _ _ _)))) ((ma_up_n (by decide)).trans ((ma_up_s _ _ _))) ((ma_up_n (by decide)).trans ((ma_up_n (by decide)).trans ((ma_up_n (by decide)).trans ((ma_up_s _ _ _))))) ((ma_up_n (nbk 73 (by decide))).trans ((ma_up_n (nbk 93 (by decide))).trans ((ma_up_n (nbk 92 (by decide))).trans ((ma_up_n (nbk 97 (by decide))).trans ((ma_up_n (nbk 73 (by decide))).trans ((ma_up_n (nbk 93 (by decide))).trans ((ma_up_n (nbk 92 (by decide))).trans ((ma_up_n (nbk 97 (by decide))).trans ((ma_up_n (nbk 73 (by decide))).trans ((ma_up_n (nbk 87 (by decide))).trans ((ma_up_n (nbk 86 (by decide))).trans (hb)))))))))))) nb hG hA (uf2_r (t8 ht T0) (t8 ht t1)) t2 iu2 iv2 iw2 dd2.1 dd2.2.1 dd2.2.2 gz2 (fun hex => (K2 okk E P hB.1 (fun z => (uf2_e hex).elim (hc _ eT2 z).2.1 (hc _ eT2 z).2.2) _ _ ⟨by repeat (first | exact kp_rf _ _ | assumption | refine kp_up (by simp) ?_), (ma_up_s _ _ _), by repeat (first | exact ki_rf _ | refine ki_u ?_ (by decide)), by repeat (first | assumption | refine smo_n (by first | decide | exact nb.1) (by first | decide | exact nb.2.1) ?_ | refine smo_a rfl (by decide) ?_)⟩ ((ma_up_n (nbk 73 (by decide))).trans ((ma_up_n (nbk 93 (by decide))).trans ((ma_up_n (nbk 92 (by decide))).trans ((ma_up_n (nbk 97 (by decide))).trans ((ma_up_n (nbk 73 (by decide))).trans ((ma_up_n (nbk 93 (by decide))).trans ((ma_up_n (nbk 92 (by decide))).trans ((ma_up_n (nbk 97 (by decide))).trans ((ma_up_n (nbk 73 (by decide))).trans ((ma_up_n (nbk 87 (by decide))).trans ((ma_up_n (nbk 86 (by decide))).trans (hb)))))))))))))) (fun _ _ _ _ _ _ _ _ _ _ _ _ hne2 => ?_)
            have d1 : x ≠ T1 := fun z => hne1 0 (by decide) (by decide) (by rw [uf_s]; exact z)
            have d2 : x ≠ T2 := fun z => hne2 0 (by decide) (by decide) (by rw [uf_n (by decide), uf_s]; exact z)
            have d3 : T1 ≠ T2 := fun z => hne2 1 (by decide) (by decide) (by rw [uf_s]; exact z)
            obtain ⟨hC3, hnn⟩ := go3_d (U1 := U1) (V1 := V1) (P1 := P1) (U2 := U2) (V2 := V2) hB.1 hG T0 u0 v0 w01 uv uw vw hdeg hfa hrev eT1 eP0 eW1 eT2 nn1 nn2 d1 d2 d3
            refine ma_iload dX12_goThree_114 rfl ?_
            refine ma_iconst dX12_goThree_116 ?_
            refine ma_rcmp_ge 280 dX12_goThree_117 rfl (by decide) (by decide) (fun c117 => ?_) (fun c117 => absurd c117 (by decide))
            refine ma_aload_n dX12_goThree_280 rfl ?_
            refine ma_iconst dX12_goThree_281 ?_
            refine ma_iconst dX12_goThree_282 ?_
            refine ma_iconst dX12_goThree_283 ?_
            refine ma_iconst dX12_goThree_284 ?_
            refine ma_cV [_, _, _, _] dX12_goThree_285 wX12_arrives lX12_409 iX12_arrives sX12_arrives rfl (by first | assumption | exact ma_up_s _ _ _ | exact (ma_up_n (by first | decide | omega)).trans (by assumption) | exact (ma_up_n (by first | decide | omega)).trans (ma_up_s _ _ _) | exact (ma_up_n (by first | decide | omega)).trans ((ma_up_n (by first | decide | omega)).trans (by assumption))) (Nat.le_of_ble_eq_true rfl) ?_
            refine c_X12_arrives ((ma_up_s _ _ _)) ((ma_up_n (by decide)).trans ((ma_up_n (by decide)).trans ((ma_up_n (by decide)).trans ((ma_up_n (by decide)).trans ((ma_up_n (by decide)).trans ((ma_up_n (by decide)).trans ((ma_up_n (by decide)).trans ((ma_up_n (by decide)).trans ((ma_up_n (by decide)).trans ((ma_up_n (by decide)).trans ((ma_up_n (by decide)).trans ((ma_up_n (by decide)).trans ((ma_up_n (by decide)).trans ((ma_up_n (by decide)).trans ((ma_up_n (by decide)).trans (g94)))))))))))))))) (g := 0) rfl (by decide) ?_
            refine ma_aload_n dX12_goThree_288 rfl ?_
            refine ma_iconst dX12_goThree_289 ?_
            refine ma_iconst dX12_goThree_290 ?_
            refine ma_iconst dX12_goThree_291 ?_
            refine ma_iconst dX12_goThree_292 ?_
            refine ma_cV [_, _, _, _] dX12_goThree_293 wX12_arrives lX12_409 iX12_arrives sX12_arrives rfl (by first | assumption | exact ma_up_s _ _ _ | exact (ma_up_n (by first | decide | omega)).trans (by assumption) | exact (ma_up_n (by first | decide | omega)).trans (ma_up_s _ _ _) | exact (ma_up_n (by first | decide | omega)).trans ((ma_up_n (by first | decide | omega)).trans (by assumption))) (Nat.le_of_ble_eq_true rfl) ?_
            refine c_X12_arrives ((ma_up_s _ _ _)) ((ma_up_n (by decide)).trans ((ma_up_s _ _ _))) (g := 1) rfl (by decide) ?_
            refine ma_aload_n dX12_goThree_296 rfl ?_
            refine ma_aload_n dX12_goThree_297 rfl ?_
            refine ma_cV [_] dX12_goThree_298 wX12_move lX12_413 iX12_move sX12_move rfl (by first | assumption | exact ma_up_s _ _ _ | exact (ma_up_n (by first | decide | omega)).trans (by assumption) | exact (ma_up_n (by first | decide | omega)).trans (ma_up_s _ _ _) | exact (ma_up_n (by first | decide | omega)).trans ((ma_up_n (by first | decide | omega)).trans (by assumption))) (Nat.le_of_ble_eq_true rfl) ?_
            obtain ⟨a, X, nw, s, H, T, pl, h1, h2, h3⟩ := hMR okk E P hB.1 hC3
            obtain ⟨ea, hX⟩ := plc_3 hB.1 ht T0 u0 v0 uv pl
            subst ea
            obtain ⟨y01, yu, yv, yw⟩ := y4 u0 v0 w01 uv uw vw
            have Xw : X w := (hX w w0 w1).mpr ⟨wu, wv⟩
            have Xy : X (6 - u - v - w) := (hX _ y01.1 y01.2).mpr ⟨Ne.symm yu, Ne.symm yv⟩
            have bw := bx_in hG h1 w0 w1 Xw
            have byy := bx_in hG h1 y01.1 y01.2 Xy
            have f2w := h1.2.1 w w0 w1 Xw
            have f2y := h1.2.1 _ y01.1 y01.2 Xy
            have f3 := h1.2.2.1 w _ w0 w1 y01.1 y01.2 Xw Xy yw
            have es : s = t - 3 := by
              rw [h1.1.2.2.1, gs_2 w01 y01 (fun c c0 c1 => by rw [hX c c0 c1]; exact x4 u0 v0 w01 uv uw vw ⟨c0, c1⟩), sty_3 T0.1 T0.2 bw.1 bw.2.1 byy.1 byy.2.1 (Ne.symm f2w.2) (Ne.symm f2y.2) f3.1]
            obtain ⟨r1, r2, r3, r4⟩ := go3_l (U1 := U1) (V1 := V1) (U2 := U2) (V2 := V2) (W2 := W2) hG h1 u0 v0 w01 uv uw vw Xw Xy eT1 eP0 eW1 eP1 t1 gz1 iu1 iv1 iw1 p1 dd1 eU2 eV2 eW2 hnn
            refine m_move (gm := 3) (cm := 2) (la := la3 u v w) (e := 2) (ix := fun c => if c = w then 1 else 2) (jn := fun y => if y = u then 1 else 0) (nu := fun y => if y = u then pq v w (6 - u - v - w) else pq u w (6 - u - v - w)) ((ma_up_s _ _ _)) (by repeat (first | assumption | refine smo_n (by first | decide | exact nb.1) (by first | decide | exact nb.2.1) ?_ | refine smo_a rfl (by decide) ?_)) ((ma_up_n (nbk 73 (by decide))).trans ((ma_up_n (nbk 94 (by decide))).trans ((ma_up_n (nbk 73 (by decide))).trans ((ma_up_n (nbk 94 (by decide))).trans ((ma_up_n (nbk 73 (by decide))).trans ((ma_up_n (nbk 93 (by decide))).trans ((ma_up_n (nbk 92 (by decide))).trans ((ma_up_n (nbk 97 (by decide))).trans ((ma_up_n (nbk 73 (by decide))).trans ((ma_up_n (nbk 93 (by decide))).trans ((ma_up_n (nbk 92 (by decide))).trans ((ma_up_n (nbk 97 (by decide))).trans ((ma_up_n (nbk 73 (by decide))).trans ((ma_up_n (nbk 93 (by decide))).trans ((ma_up_n (nbk 92 (by decide))).trans ((ma_up_n (nbk 97 (by decide))).trans ((ma_up_n (nbk 73 (by decide))).trans ((ma_up_n (nbk 87 (by decide))).trans ((ma_up_n (nbk 86 (by decide))).trans (hb)))))))))))))))))))) nb hG hA h1 h2 h3 ?_ ?_ (s3e es) ((ma_up_n (by decide)).trans ((ma_up_n (by decide)).trans ((ma_up_n (by decide)).trans ((ma_up_n (by decide)).trans ((ma_up_n (by decide)).trans ((ma_up_n (by decide)).trans ((ma_up_s _ _ _)))))))) ((ma_up_n (by decide)).trans ((ma_up_n (by decide)).trans ((ma_up_n (by decide)).trans ((ma_up_n (by decide)).trans ((ma_up_n (by decide)).trans ((ma_up_s _ _ _))))))) ((ma_up_n (by decide)).trans ((ma_up_s _ _ _))) rfl rfl (fun h' TH C' q1 q2 q3 q4 q5 q6 q7 => ?_)
            · refine lfg_three (L1 := lb0) (L2 := uf4 lb0 u v w (6 - u - v - w) 3 4 0 1) (L3 := uf4 (uf4 lb0 u v w (6 - u - v - w) 3 4 0 1) U1 V1 W1 (6 - U1 - V1 - W1) 3 4 1 2) (U1 := U1) (V1 := V1) (W1 := W1) (U2 := U2) (V2 := V2) (W2 := W2) u0 v0 w01 uv uw vw hX p0 ⟨byy.2.2.1, byy.2.2.2.1⟩ eP0.symm rfl rfl ?_ ?_ (fun c c0 c1 => ?_) (fun c c0 c1 => ?_) (fun c c0 c1 => ?_) eU1 eV1 eW1 r2 r3 r4
              · exact eT1
              · exact r1.symm
              · rcases four_of c0 c1 with rfl | rfl | rfl | rfl <;> rfl
              · rcases four_of c0 c1 with rfl | rfl | rfl | rfl <;> rfl
              · rcases four_of c0 c1 with rfl | rfl | rfl | rfl <;> rfl
            · exact lcg_three u0 v0 w01 uv uw vw hX rfl rfl rfl rfl rfl rfl rfl rfl
            refine ma_iconst dX12_goThree_301 ?_
            refine ma_iret dX12_goThree_302 rfl (K0 okk E P hB.1 hC3 h' _ TH C' ⟨?_, q2, ?_, q3⟩ q4 q5 q6 q7)
            · refine kp_tr ?_ q1
              repeat (first | exact kp_rf _ _ | assumption | refine kp_up (by simp) ?_)
            · repeat (first | exact ki_rf _ | refine ki_u ?_ (by decide))
          · -- 71
            refine ma_bipush dX12_goThree_71 ?_
            exact ma_iret dX12_goThree_73 rfl (K2 okk E P hB.1 (fun z => c68 z.1) _ _ ⟨by repeat (first | exact kp_rf _ _ | assumption | refine kp_up (by simp) ?_), (ma_up_n (by decide)).trans ((ma_up_n (by decide)).trans (hM)), by repeat (first | exact ki_rf _ | refine ki_u ?_ (by decide)), by repeat (first | assumption | refine smo_n (by first | decide | exact nb.1) (by first | decide | exact nb.2.1) ?_ | refine smo_a rfl (by decide) ?_)⟩ ((ma_up_n (nbk 87 (by decide))).trans ((ma_up_n (nbk 86 (by decide))).trans (hb))))
    · -- k0
      refine ma_rif_ne 24 dX12_goThree_19 rfl (by decide) (fun c19 => absurd c19 (by decide)) (fun c19 => ?_)
      refine ma_iconst dX12_goThree_22 ?_
      exact ma_iret dX12_goThree_23 rfl (K1 (by omega))
  · -- k0
    refine ma_rif_eq 22 dX12_goThree_10 rfl (by decide) (fun c10 => ?_) (fun c10 => absurd c10 (by decide))
    refine ma_iconst dX12_goThree_22 ?_
    exact ma_iret dX12_goThree_23 rfl (K1 (by omega))
