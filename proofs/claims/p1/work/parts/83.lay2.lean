theorem rm_new {t : Int} {G : Int → Int} {S : BS} {i : Int} {N M O C M' C' : Int → Int} (hG : VG t G) (I : BI t G S i) (i0 : 0 ≤ i) (hi : i / 4 < S.1) (R : RM t S N M O C) (hq : 0 ≤ bq G S i) (hb : S.2.1 (bq G S i / 32) < 0)
    (h1 : ∀ c', 0 ≤ c' → c' < 4 → M' (4 * (bq G S i / 32) + im (bq G S i % 32) c') = im (S.2.2.2 (S.2.2.1 (i / 4))) c' ∧ C' (4 * (bq G S i / 32) + im (S.2.2.2 (S.2.2.1 (i / 4))) c') = im (bq G S i % 32) c')
    (h2 : ∀ s, (0 ≤ s ∧ s < 8) → s ≠ bq G S i / 32 → ∀ c', 0 ≤ c' → c' < 4 → M' (4 * s + c') = M (4 * s + c') ∧ C' (4 * s + c') = C (4 * s + c')) : RM t (bstep G S i) (uf N (bq G S i / 32) S.1) M' (uf O S.1 (bq G S i / 32)) C' ∧ (bstep G S i).1 = S.1 + 1 ∧ (bstep G S i).2.1 (bq G S i / 32) = S.1 ∧ (bstep G S i).2.2.2 (bq G S i / 32) = iv (bp G S i) ∧ (∀ c, 0 ≤ c → c < 4 → M' (4 * (bq G S i / 32) + c) = im (iv (bp G S i)) c) := by
  have ht := hG.1
  obtain ⟨⟨a0, a1⟩, ⟨v0, v1⟩, ⟨m0, m1⟩, hc⟩ := bf_ok hG I i0 hi
  rcases hc with e | ⟨e, b0, b1, g0, g1⟩
  · omega
  have hn := I.2.2.2.1 _ a0 a1 (by rw [(I.2.1 (i / 4) (by omega) hi).2.2]; omega)
  have ip := iv_in g0 g1
  have ebp : iv (bp G S i) = af (S.2.2.2 (S.2.2.1 (i / 4))) (iv (bq G S i % 32)) := by
    unfold bp
    rw [iv_af g0 g1 v0 v1, iv_iv hn.1 hn.2]
  have ubp : 0 ≤ bp G S i ∧ bp G S i < 24 := af_in g0 g1 v0 v1
  have hM : ∀ c, 0 ≤ c → c < 4 → M' (4 * (bq G S i / 32) + c) = im (iv (bp G S i)) c := fun c c0 c1 => by
    have j := im_in ip.1 ip.2 c0 c1
    have w := (h1 _ j.1 j.2).1
    rw [(im_mi g0 g1 c0 c1).2] at w
    rw [w, ebp, im_af hn.1 hn.2 ip.1 ip.2 c0 c1]
  have hC : ∀ c, 0 ≤ c → c < 4 → C' (4 * (bq G S i / 32) + c) = im (iv (iv (bp G S i))) c := fun c c0 c1 => by
    have j := im_in v0 v1 c0 c1
    have w := (h1 _ j.1 j.2).2
    rw [(im_mi hn.1 hn.2 c0 c1).2] at w
    rw [w, iv_iv ubp.1 ubp.2]
    unfold bp
    rw [im_af g0 g1 v0 v1 c0 c1]
  unfold bstep
  rw [if_neg (by omega), if_pos hb]
  refine ⟨⟨fun s s0 s1 => ?_, fun j j0 j1 => ?_, fun s s0 s1 s2 c c0 c1 => ?_⟩, rfl, uf_s _ _ _, uf_s _ _ _, hM⟩
  · show uf N (bq G S i / 32) S.1 s = uf S.2.1 (bq G S i / 32) S.1 s
    by_cases z : s = bq G S i / 32
    · rw [z, uf_s, uf_s]
    · rw [uf_n z, uf_n z]; exact R.1 s s0 s1
  · have j1 : j < S.1 + 1 := j1
    show uf O S.1 (bq G S i / 32) j = uf S.2.2.1 S.1 (bq G S i / 32) j
    by_cases z : j = S.1
    · rw [z, uf_s, uf_s]
    · rw [uf_n z, uf_n z]; exact R.2.1 j j0 (by omega)
  · have s2 : 0 ≤ uf S.2.1 (bq G S i / 32) S.1 s := s2
    show M' (4 * s + c) = im (uf S.2.2.2 (bq G S i / 32) (iv (bp G S i)) s) c ∧ C' (4 * s + c) = im (iv (uf S.2.2.2 (bq G S i / 32) (iv (bp G S i)) s)) c
    by_cases z : s = bq G S i / 32
    · rw [z, uf_s]
      exact ⟨hM c c0 c1, hC c c0 c1⟩
    · rw [uf_n z] at s2
      rw [uf_n z]
      have w := h2 s ⟨s0, by omega⟩ z c c0 c1
      rw [w.1, w.2]
      exact R.2.2 s s0 s1 s2 c c0 c1
theorem st_old {G : Int → Int} {S : BS} {i : Int} (h : bq G S i < 0 ∨ 0 ≤ S.2.1 (bq G S i / 32)) : bstep G S i = S := by
  unfold bstep
  by_cases z : bq G S i < 0
  · rw [if_pos z]
  · rw [if_neg z, if_neg (by omega)]
set_option maxHeartbeats 4000000 in
theorem l_X12_lN128 {h : ma_H} {a nx d : Nat} {f0 p0 as mn sm i tt nm t : Int} {G Aa La L f N M O R C V : Int → Int} {Q : Option ma_V → ma_H → Nat → Prop} {I : Nat → Int} {x10 x11 x12 x13 : Option ma_V} (hG : VG t G) (hM : h 73 = co 12 (mo I)) (h77 : h 77 = ci 64 f) (hf : PB f) (ha : h a = ci 33 Aa) (na : a < 78 ∨ 84 < a) (hAa : ∀ j, 0 ≤ j → j < 32 → Aa (1 + j) = cv (G j)) (h82 : h 82 = ci 33 La) (hLv : as = 1 → ∀ j, 0 ≤ j → j < 32 → La (1 + j) = cv (L j) ∧ vc (L j)) (hn : 0 ≤ i ∧ i < 8) (hnm : 0 ≤ nm ∧ nm < 4) (hI : BI t G (bst G f0 p0 (4 * i + nm).toNat) (4 * i + nm)) (hi : i < (bst G f0 p0 (4 * i + nm).toNat).1) (etx : tt = (bst G f0 p0 (4 * i + nm).toNat).2.2.1 i) (emn : mn = (bst G f0 p0 (4 * i + nm).toNat).1) (hR : RM t (bst G f0 p0 (4 * i + nm).toNat) N M O C) (hT : TR t (brow G f0 p0) R (4 * i + nm)) (hS : SMP as sm (brow G f0 p0) L (4 * i + nm)) (KN : ∀ sm' mn' N M O R C V x10 x11 x12 x13, mn' = (bst G f0 p0 (4 * i + nm + 1).toNat).1 → RM t (bst G f0 p0 (4 * i + nm + 1).toNat) N M O C → TR t (brow G f0 p0) R (4 * i + (nm + 1)) → SMP as sm' (brow G f0 p0) L (4 * i + (nm + 1)) → ma_J none mX12_layNumbering (d + 2) 0 0 128 [some (vr 73), some (vr a), some (vi f0), some (vi p0), some (vi as), some (vi mn'), some (vi sm'), some (vi i), some (vi tt), some (vi (nm + 1)), x10, x11, x12, x13] [] (gh h N M O R C V) nx Q) (K0 : as = 1 → (∃ k, 0 ≤ k ∧ k ≤ 4 * i + nm ∧ (∀ j, 0 ≤ j → j < k → brow G f0 p0 j = L j) ∧ L k < brow G f0 p0 k) → ∀ N M O R C V, Q (some (vi 0)) (gh h N M O R C V) nx) : ma_J none mX12_layNumbering (d + 2) 0 0 134 [some (vr 73), some (vr a), some (vi f0), some (vi p0), some (vi as), some (vi mn), some (vi sm), some (vi i), some (vi tt), some (vi nm), x10, x11, x12, x13] [] (gh h N M O R C V) nx Q := by
  have htt := hG.1
  have n0 : 0 ≤ 4 * i + nm := by omega
  have e1 : (4 * i + nm) / 4 = i := by omega
  have e2 : (4 * i + nm) % 4 = nm := by omega
  have es := bst_s G f0 p0 n0
  have hi4 : (4 * i + nm) / 4 < (bst G f0 p0 (4 * i + nm).toNat).1 := by rw [e1]; exact hi
  have hw := bw_cv hG n0 hI hi4
  obtain ⟨⟨tt0, tt1⟩, ⟨v0, v1⟩, ⟨m0, m1⟩, hbq⟩ := bf_ok hG hI n0 hi4
  have ebq : bq G (bst G f0 p0 (4 * i + nm).toNat) (4 * i + nm) = G (4 * (bst G f0 p0 (4 * i + nm).toNat).2.2.1 i + im (iv ((bst G f0 p0 (4 * i + nm).toNat).2.2.2 ((bst G f0 p0 (4 * i + nm).toNat).2.2.1 i))) nm) := by
    unfold bq
    rw [e1, e2]
  have httn : 0 ≤ (bst G f0 p0 (4 * i + nm).toNat).2.1 ((bst G f0 p0 (4 * i + nm).toNat).2.2.1 i) := by rw [(hI.2.1 i hn.1 hi).2.2]; exact hn.1
  rw [e1] at tt0 tt1 v0 v1 m0 m1
  rw [e2] at m0 m1
  have hnt := hI.2.2.2.1 _ tt0 tt1 httn
  have hcn : C (4 * tt + nm) = im (iv ((bst G f0 p0 (4 * i + nm).toNat).2.2.2 ((bst G f0 p0 (4 * i + nm).toNat).2.2.1 i))) nm := by rw [etx]; exact (hR.2.2 _ tt0 tt1 httn nm hnm.1 hnm.2).2
  have hnte : (bst G f0 p0 (4 * i + nm).toNat).2.2.2 ((bst G f0 p0 (4 * i + nm).toNat).2.2.1 i) = (bst G f0 p0 (4 * i + nm).toNat).2.2.2 ((bst G f0 p0 (4 * i + nm).toNat).2.2.1 ((4 * i + nm) / 4)) := by rw [e1]
  have hbr : -1 ≤ cv (bq G (bst G f0 p0 (4 * i + nm).toNat) (4 * i + nm)) ∧ cv (bq G (bst G f0 p0 (4 * i + nm).toNat) (4 * i + nm)) < 192 := by
    have : vc (bq G (bst G f0 p0 (4 * i + nm).toNat) (4 * i + nm)) := by
      rcases hbq with z | z
      · exact Or.inl z
      · exact Or.inr (by omega)
    exact (cv_lt this this).2.2
  have hmn : 0 ≤ mn ∧ mn ≤ 8 := by have := hI.1; omega
  rw [e1] at hw
  generalize hnn : 4 * i + nm = n at *
  generalize hSS : bst G f0 p0 n.toNat = S at *
  rw [← etx] at *
  generalize hntt : S.2.2.2 tt = nt at *
  have ht : 0 ≤ tt ∧ tt < 8 := by omega
  have hMt : ∀ c, 0 ≤ c → c < 4 → M (4 * tt + c) = im nt c := fun c c0 c1 => by rw [← hntt]; exact (hR.2.2 tt tt0 tt1 httn c c0 c1).1
  refine ma_aload_n dX12_layNumbering_134 rfl ?_
  refine ma_iload dX12_layNumbering_135 rfl ?_
  refine ma_aload_n dX12_layNumbering_137 rfl ?_
  refine ma_getf dX12_layNumbering_138 fX12_39 (by first | exact gh_78 | exact gh_79 | exact gh_80 | exact gh_81 | exact gh_83 | exact gh_84 | exact (gh_n (by first | omega | assumption)).trans (by assumption)) (by rfl) ?_
  refine ma_iconst dX12_layNumbering_141 ?_
  refine ma_iload dX12_layNumbering_142 rfl ?_
  refine ma_imul dX12_layNumbering_144 ?_
  refine ma_iload dX12_layNumbering_145 rfl ?_
  refine ma_iadd dX12_layNumbering_147 ?_
  refine ma_iald dX12_layNumbering_148 (by first | exact gh_78 | exact gh_79 | exact gh_80 | exact gh_81 | exact gh_83 | exact gh_84 | exact (gh_n (by first | omega | assumption)).trans (by assumption)) (by omega) (by omega) (by omega) ?_
  refine ma_cS [_, _, _] dX12_layNumbering_149 wX12_glue lX12_150 tX12_glue (Nat.le_of_ble_eq_true rfl) ?_
  refine c_X12_glue ((gh_n (by omega)).trans ha) ht (by rw [hcn]; exact ⟨m0, m1⟩) ?_
  rw [hcn, show 1 + 4 * tt + im (iv nt) nm = 1 + (4 * tt + im (iv nt) nm) by omega, hAa _ (by omega) (by omega), ← ebq]
  refine ma_istoreN dX12_layNumbering_152 (by decide) rfl ?_
  refine ma_iconst dX12_layNumbering_154 ?_
  refine ma_istoreN dX12_layNumbering_155 (by decide) rfl ?_
  refine ma_iload dX12_layNumbering_157 rfl ?_
  refine ma_iconst dX12_layNumbering_159 ?_
  refine ma_rcmp_eq 271 dX12_layNumbering_160 rfl (by constructor <;> omega) (by decide) (fun c160 => ?_) (fun c160 => ?_)
  · -- 271
    have hbn : bq G S n < 0 := by
      rcases hbq with z | z
      · omega
      · have := cv_p z.1 z.2.2.2.2; omega
    subst hnn
    exact l_X12_lN271 hM h82 hLv hn hnm (by rw [hw.2.1 hbn]; rfl) hw.1 hT hS (fun sm' R' a b => KN sm' mn N M O R' C V _ _ _ _ (by rw [es, st_old (Or.inl hbn)]; exact emn) (by rw [es, st_old (Or.inl hbn)]; exact hR) a b) K0
  · -- 163
    refine ma_iload dX12_layNumbering_163 rfl ?_
    refine ma_bipush dX12_layNumbering_165 ?_
    refine ma_kdiv dX12_layNumbering_167 (by constructor <;> omega) (by decide) ?_
    have hq0 : 0 ≤ bq G S n := by
      rcases hbq with z | z
      · rw [z, cv_n (by omega)] at c160; exact absurd rfl c160
      · exact z.1
    obtain ⟨-, bb0, bb1, g0, g1⟩ : 0 ≤ bq G S n ∧ 0 ≤ bq G S n / 32 ∧ bq G S n / 32 < t ∧ 0 ≤ bq G S n % 32 ∧ bq G S n % 32 < 24 := by
      rcases hbq with z | z
      · omega
      · exact z
    have hcv := cv_p hq0 g1
    rw [hcv.2.1]
    have ecv := hw.2.2 hq0
    have hNb := hR.1 _ bb0 (show bq G S n / 32 < 8 by omega)
    have hNr : -1 ≤ N (bq G S n / 32) ∧ N (bq G S n / 32) < 8 := by
      rw [hNb]
      rcases hI.2.2.1 _ bb0 bb1 with z | z <;> omega
    refine ma_istoreN dX12_layNumbering_168 (by decide) rfl ?_
    refine ma_aload_n dX12_layNumbering_170 rfl ?_
    refine ma_getf dX12_layNumbering_171 fX12_24 (by first | exact gh_78 | exact gh_79 | exact gh_80 | exact gh_81 | exact gh_83 | exact gh_84 | exact (gh_n (by first | omega | assumption)).trans (by assumption)) (by rfl) ?_
    refine ma_iload dX12_layNumbering_174 rfl ?_
    refine ma_iald dX12_layNumbering_176 (by first | exact gh_78 | exact gh_79 | exact gh_80 | exact gh_81 | exact gh_83 | exact gh_84 | exact (gh_n (by first | omega | assumption)).trans (by assumption)) (by omega) (by omega) (by omega) ?_
    refine ma_iconst dX12_layNumbering_177 ?_
    refine ma_rcmp_ne 245 dX12_layNumbering_178 rfl (by constructor <;> omega) (by decide) (fun c178 => ?_) (fun c178 => ?_)
    · -- 245
      have hb0 : 0 ≤ S.2.1 (bq G S n / 32) := by rw [← hNb]; rcases hI.2.2.1 _ bb0 bb1 with z | z <;> omega
      have hst := st_old (G := G) (S := S) (i := n) (Or.inr hb0)
      rw [es, hst] at ecv
      have hnb := hI.2.2.2.1 _ bb0 bb1 hb0
      refine l_X12_lN245 hM h77 hf ht (by constructor <;> omega) ⟨g0, g1⟩ hnt hnb (by constructor <;> omega) hcv.2.2 hNb hMt (fun c c0 c1 => (hR.2.2 _ bb0 bb1 hb0 c c0 c1).1) (fun V' => ?_)
      subst hnn
      exact l_X12_lN271 hM h82 hLv hn hnm ecv.symm hw.1 hT hS (fun sm' R' a b => KN sm' mn N M O R' C V' _ _ _ _ (by rw [es, hst]; exact emn) (by rw [es, hst]; exact hR) a b) K0
    · -- 181
      have hroom := bf_room hI bb0 bb1 (show S.2.1 (bq G S n / 32) < 0 by omega)
      refine ma_aload_n dX12_layNumbering_181 rfl ?_
      refine ma_getf dX12_layNumbering_182 fX12_24 (by first | exact gh_78 | exact gh_79 | exact gh_80 | exact gh_81 | exact gh_83 | exact gh_84 | exact (gh_n (by first | omega | assumption)).trans (by assumption)) (by rfl) ?_
      refine ma_iload dX12_layNumbering_185 rfl ?_
      refine ma_iload dX12_layNumbering_187 rfl ?_
      refine ma_iast dX12_layNumbering_189 (by first | exact gh_78 | exact gh_79 | exact gh_80 | exact gh_81 | exact gh_83 | exact gh_84 | exact (gh_n (by first | omega | assumption)).trans (by assumption)) (by omega) (by omega) (by omega) ?_
      rw [gh_p78]
      refine ma_aload_n dX12_layNumbering_190 rfl ?_
      refine ma_getf dX12_layNumbering_191 fX12_30 (by first | exact gh_78 | exact gh_79 | exact gh_80 | exact gh_81 | exact gh_83 | exact gh_84 | exact (gh_n (by first | omega | assumption)).trans (by assumption)) (by rfl) ?_
      refine ma_iload dX12_layNumbering_194 rfl ?_
      refine ma_iload dX12_layNumbering_196 rfl ?_
      refine ma_iast dX12_layNumbering_198 (by first | exact gh_78 | exact gh_79 | exact gh_80 | exact gh_81 | exact gh_83 | exact gh_84 | exact (gh_n (by first | omega | assumption)).trans (by assumption)) (by omega) (by omega) (by omega) ?_
      rw [gh_p80]
      refine ma_iincN dX12_layNumbering_199 rfl (by decide) rfl ?_
      refine ma_iconst dX12_layNumbering_202 ?_
      refine ma_istoreN dX12_layNumbering_203 (by decide) rfl ?_
      have hb0 : S.2.1 (bq G S n / 32) < 0 := by omega
      refine l_X12_lN205 (M0 := M) (C0 := C) hM ht (fun e => by rw [← e] at hb0; omega) (by constructor <;> omega) ⟨g0, g1⟩ hnt hcv.2.2 (by constructor <;> omega) hMt (fun M' C' hm1 hm2 => ?_) 5 0 M C (by omega) (by omega) (by omega) (fun c' a b => by omega) (fun s _ _ c' _ _ => ⟨rfl, rfl⟩)
      have ubp : 0 ≤ bp G S n ∧ bp G S n < 24 := by unfold bp; rw [← hnte]; exact af_in g0 g1 v0 v1
      have hm1' := hm1
      rw [hnte] at hm1'
      obtain ⟨q1, q2, q3, q4, q5⟩ := rm_new (M' := M') (C' := C') hG hI n0 hi4 hR hq0 hb0 hm1' hm2
      rw [es, q3, q4] at ecv
      rw [emn]
      refine l_X12_lN245 (ns := iv (bp G S n)) hM h77 hf ht (by constructor <;> omega) ⟨g0, g1⟩ hnt (iv_in ubp.1 ubp.2) (by constructor <;> omega) hcv.2.2 (uf_s _ _ _) (fun c c0 c1 => ?_) q5 (fun V' => ?_)
      · exact (hm2 tt ht (fun e => by rw [← e] at hb0; omega) c c0 c1).1.trans (hMt c c0 c1)
      · subst hnn
        exact l_X12_lN271 hM h82 hLv hn hnm ecv.symm hw.1 hT hS (fun sm' R' a b => KN sm' _ _ M' _ R' C' V' _ _ _ _ (by rw [es, q2]) (by rw [es]; exact q1) a b) K0
