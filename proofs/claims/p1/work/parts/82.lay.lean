/-- a code that can stand in a row -/
def vc (x : Int) : Prop := x = -1 ∨ (0 ≤ x ∧ x < 256 ∧ x % 32 < 24)
theorem cv_lt {x y : Int} (hx : vc x) (hy : vc y) : (cv x < cv y ↔ x < y) ∧ (cv x = cv y ↔ x = y) ∧ -1 ≤ cv x ∧ cv x < 192 := by
  unfold vc at hx hy
  unfold cv
  rcases hx with hx | hx <;> rcases hy with hy | hy
  · rw [if_pos (by omega), if_pos (by omega)]; omega
  · rw [if_pos (by omega), if_neg (by omega)]; omega
  · rw [if_neg (by omega), if_pos (by omega)]; omega
  · rw [if_neg (by omega), if_neg (by omega)]; omega
/-- the row that is laid: n numbers of it -/
def TR (t : Int) (B R : Int → Int) (n : Int) : Prop := R 0 = t ∧ (∀ j, 0 ≤ j → j < n → R (1 + j) = cv (B j)) ∧ ∀ j, n ≤ j → j < 32 → R (1 + j) = -1
/-- against the least one, if it is asked for -/
def SMP (as sm : Int) (B L : Int → Int) (n : Int) : Prop := (as = 0 ∧ sm = 0) ∨ (as = 1 ∧ sm = 1 ∧ ∀ j, 0 ≤ j → j < n → B j = L j) ∨ (as = 1 ∧ sm = 0 ∧ ∃ k, 0 ≤ k ∧ k < n ∧ (∀ j, 0 ≤ j → j < k → B j = L j) ∧ B k < L k)
theorem tr_s {t : Int} {B R : Int → Int} {n x : Int} (n0 : 0 ≤ n) (h : TR t B R n) (e : x = cv (B n)) : TR t B (uf R (1 + n) x) (n + 1) := by
  refine ⟨by rw [uf_n (by omega)]; exact h.1, fun j j0 j1 => ?_, fun j j0 j1 => by rw [uf_n (by omega)]; exact h.2.2 j (by omega) j1⟩
  by_cases z : j = n
  · rw [z, uf_s]; exact e
  · rw [uf_n (by omega)]; exact h.2.1 j j0 (by omega)
set_option maxHeartbeats 2000000 in
theorem l_X12_lN271 {h : ma_H} {a nx d : Nat} {f0 p0 as mn sm i tt nm v x t : Int} {La L Bw N M O R C V : Int → Int} {Q : Option ma_V → ma_H → Nat → Prop} {I : Nat → Int} {x12 x13 : Option ma_V} (hM : h 73 = co 12 (mo I)) (h82 : h 82 = ci 33 La) (hLv : as = 1 → ∀ j, 0 ≤ j → j < 32 → La (1 + j) = cv (L j) ∧ vc (L j)) (hn : 0 ≤ i ∧ i < 8) (hnm : 0 ≤ nm ∧ nm < 4) (hx : x = cv (Bw (4 * i + nm))) (hbv : vc (Bw (4 * i + nm))) (hT : TR t Bw R (4 * i + nm)) (hS : SMP as sm Bw L (4 * i + nm)) (KN : ∀ sm' R', TR t Bw R' (4 * i + (nm + 1)) → SMP as sm' Bw L (4 * i + (nm + 1)) → ma_J none mX12_layNumbering (d + 1) 0 0 128 [some (vr 73), some (vr a), some (vi f0), some (vi p0), some (vi as), some (vi mn), some (vi sm'), some (vi i), some (vi tt), some (vi (nm + 1)), some (vi v), some (vi x), x12, x13] [] (gh h N M O R' C V) nx Q) (K0 : as = 1 → (∃ k, 0 ≤ k ∧ k ≤ 4 * i + nm ∧ (∀ j, 0 ≤ j → j < k → Bw j = L j) ∧ L k < Bw k) → ∀ N M O R C V, Q (some (vi 0)) (gh h N M O R C V) nx) : ma_J none mX12_layNumbering (d + 1) 0 0 271 [some (vr 73), some (vr a), some (vi f0), some (vi p0), some (vi as), some (vi mn), some (vi sm), some (vi i), some (vi tt), some (vi nm), some (vi v), some (vi x), x12, x13] [] (gh h N M O R C V) nx Q := by
  have hcv := (cv_lt hbv hbv).2.2
  rw [← hx] at hcv
  rcases hS with ⟨ha, hs⟩ | ⟨ha, hs, hB⟩ | ⟨ha, hs, k, k0, k1, hB, hk⟩
  · subst hs
    have hS' : SMP as 0 Bw L (4 * i + (nm + 1)) := Or.inl ⟨ha, rfl⟩
    refine ma_aload_n dX12_layNumbering_271 rfl ?_
    refine ma_getf dX12_layNumbering_272 fX12_33 (by first | exact gh_78 | exact gh_79 | exact gh_80 | exact gh_81 | exact gh_83 | exact gh_84 | exact (gh_n (by first | omega | assumption)).trans (by assumption)) (by rfl) ?_
    refine ma_iload dX12_layNumbering_275 rfl ?_
    refine ma_iload dX12_layNumbering_277 rfl ?_
    refine ma_iload dX12_layNumbering_279 rfl ?_
    refine ma_cS [_, _, _, _] dX12_layNumbering_281 wX12_put lX12_138 tX12_put (Nat.le_of_ble_eq_true rfl) ?_
    refine c_X12_put gh_81 hn hnm ?_
    rw [gh_p81, show 1 + 4 * i + nm = 1 + (4 * i + nm) by omega]
    refine ma_iload dX12_layNumbering_284 rfl ?_
    refine ma_rif_eq 307 dX12_layNumbering_286 rfl (by decide) (fun c286 => ?_) (fun c286 => absurd c286 (by decide))
    refine ma_iload dX12_layNumbering_307 rfl ?_
    refine ma_rif_eq 332 dX12_layNumbering_309 rfl (by decide) (fun c309 => ?_) (fun c309 => absurd c309 (by decide))
    refine ma_iconst dX12_layNumbering_332 ?_
    refine ma_istoreN dX12_layNumbering_333 (by decide) rfl ?_
    refine ma_iincN dX12_layNumbering_335 rfl (by decide) rfl ?_
    refine ma_goto 128 dX12_layNumbering_338 rfl ?_
    exact KN 0 _ (by have w := tr_s (by omega) hT hx; rw [show 4 * i + nm + 1 = 4 * i + (nm + 1) by omega] at w; exact w) hS'
  · subst hs
    obtain ⟨hl1, hl2⟩ := hLv ha (4 * i + nm) (by omega) (by omega)
    have hc4 := cv_lt hbv hl2
    rw [← hx] at hc4
    have hc5 := (cv_lt hl2 hl2).2.2
    refine ma_aload_n dX12_layNumbering_271 rfl ?_
    refine ma_getf dX12_layNumbering_272 fX12_33 (by first | exact gh_78 | exact gh_79 | exact gh_80 | exact gh_81 | exact gh_83 | exact gh_84 | exact (gh_n (by first | omega | assumption)).trans (by assumption)) (by rfl) ?_
    refine ma_iload dX12_layNumbering_275 rfl ?_
    refine ma_iload dX12_layNumbering_277 rfl ?_
    refine ma_iload dX12_layNumbering_279 rfl ?_
    refine ma_cS [_, _, _, _] dX12_layNumbering_281 wX12_put lX12_138 tX12_put (Nat.le_of_ble_eq_true rfl) ?_
    refine c_X12_put gh_81 hn hnm ?_
    rw [gh_p81, show 1 + 4 * i + nm = 1 + (4 * i + nm) by omega]
    refine ma_iload dX12_layNumbering_284 rfl ?_
    refine ma_rif_eq 307 dX12_layNumbering_286 rfl (by decide) (fun c286 => absurd c286 (by decide)) (fun c286 => ?_)
    refine ma_iload dX12_layNumbering_289 rfl ?_
    refine ma_aload_n dX12_layNumbering_291 rfl ?_
    refine ma_getf dX12_layNumbering_292 fX12_36 (by first | exact gh_78 | exact gh_79 | exact gh_80 | exact gh_81 | exact gh_83 | exact gh_84 | exact (gh_n (by first | omega | assumption)).trans (by assumption)) (by rfl) ?_
    refine ma_iload dX12_layNumbering_295 rfl ?_
    refine ma_iload dX12_layNumbering_297 rfl ?_
    refine ma_cS [_, _, _] dX12_layNumbering_299 wX12_glue lX12_150 tX12_glue (Nat.le_of_ble_eq_true rfl) ?_
    refine c_X12_glue ((gh_n (by omega)).trans h82) hn hnm ?_
    rw [show 1 + 4 * i + nm = 1 + (4 * i + nm) by omega, hl1]
    refine ma_rcmp_le 307 dX12_layNumbering_302 rfl (by constructor <;> omega) (by constructor <;> omega) (fun c302 => ?_) (fun c302 => ?_)
    · -- 307
      refine ma_iload dX12_layNumbering_307 rfl ?_
      refine ma_rif_eq 332 dX12_layNumbering_309 rfl (by decide) (fun c309 => absurd c309 (by decide)) (fun c309 => ?_)
      refine ma_iload dX12_layNumbering_312 rfl ?_
      refine ma_aload_n dX12_layNumbering_314 rfl ?_
      refine ma_getf dX12_layNumbering_315 fX12_36 (by first | exact gh_78 | exact gh_79 | exact gh_80 | exact gh_81 | exact gh_83 | exact gh_84 | exact (gh_n (by first | omega | assumption)).trans (by assumption)) (by rfl) ?_
      refine ma_iload dX12_layNumbering_318 rfl ?_
      refine ma_iload dX12_layNumbering_320 rfl ?_
      refine ma_cS [_, _, _] dX12_layNumbering_322 wX12_glue lX12_150 tX12_glue (Nat.le_of_ble_eq_true rfl) ?_
      refine c_X12_glue ((gh_n (by omega)).trans h82) hn hnm ?_
      rw [show 1 + 4 * i + nm = 1 + (4 * i + nm) by omega, hl1]
      refine ma_rcmp_ne 332 dX12_layNumbering_325 rfl (by constructor <;> omega) (by constructor <;> omega) (fun c325 => ?_) (fun c325 => ?_)
      · -- 332
        refine ma_iconst dX12_layNumbering_332 ?_
        refine ma_istoreN dX12_layNumbering_333 (by decide) rfl ?_
        refine ma_iincN dX12_layNumbering_335 rfl (by decide) rfl ?_
        refine ma_goto 128 dX12_layNumbering_338 rfl ?_
        exact KN 0 _ (by have w := tr_s (by omega) hT hx; rw [show 4 * i + nm + 1 = 4 * i + (nm + 1) by omega] at w; exact w) (Or.inr (Or.inr ⟨ha, rfl, 4 * i + nm, by omega, by omega, hB, by have := hc4.1; have := hc4.2.1; omega⟩))
      · -- 328
        refine ma_iconst dX12_layNumbering_328 ?_
        refine ma_goto 333 dX12_layNumbering_329 rfl ?_
        refine ma_istoreN dX12_layNumbering_333 (by decide) rfl ?_
        refine ma_iincN dX12_layNumbering_335 rfl (by decide) rfl ?_
        refine ma_goto 128 dX12_layNumbering_338 rfl ?_
        exact KN 1 _ (by have w := tr_s (by omega) hT hx; rw [show 4 * i + nm + 1 = 4 * i + (nm + 1) by omega] at w; exact w) (Or.inr (Or.inl ⟨ha, rfl, fun j j0 j1 => by
          rcases Int.lt_or_eq_of_le (show j ≤ 4 * i + nm by omega) with z | z
          · exact hB j j0 z
          · rw [z]; exact hc4.2.1.mp (by omega)⟩))
    · -- 305
      refine ma_iconst dX12_layNumbering_305 ?_
      exact ma_iret dX12_layNumbering_306 rfl (K0 ha ⟨4 * i + nm, by omega, by omega, hB, by have := hc4.1; omega⟩ _ _ _ _ _ _)
  · subst hs
    have hS' : SMP as 0 Bw L (4 * i + (nm + 1)) := Or.inr (Or.inr ⟨ha, rfl, k, k0, by omega, hB, hk⟩)
    refine ma_aload_n dX12_layNumbering_271 rfl ?_
    refine ma_getf dX12_layNumbering_272 fX12_33 (by first | exact gh_78 | exact gh_79 | exact gh_80 | exact gh_81 | exact gh_83 | exact gh_84 | exact (gh_n (by first | omega | assumption)).trans (by assumption)) (by rfl) ?_
    refine ma_iload dX12_layNumbering_275 rfl ?_
    refine ma_iload dX12_layNumbering_277 rfl ?_
    refine ma_iload dX12_layNumbering_279 rfl ?_
    refine ma_cS [_, _, _, _] dX12_layNumbering_281 wX12_put lX12_138 tX12_put (Nat.le_of_ble_eq_true rfl) ?_
    refine c_X12_put gh_81 hn hnm ?_
    rw [gh_p81, show 1 + 4 * i + nm = 1 + (4 * i + nm) by omega]
    refine ma_iload dX12_layNumbering_284 rfl ?_
    refine ma_rif_eq 307 dX12_layNumbering_286 rfl (by decide) (fun c286 => ?_) (fun c286 => absurd c286 (by decide))
    refine ma_iload dX12_layNumbering_307 rfl ?_
    refine ma_rif_eq 332 dX12_layNumbering_309 rfl (by decide) (fun c309 => ?_) (fun c309 => absurd c309 (by decide))
    refine ma_iconst dX12_layNumbering_332 ?_
    refine ma_istoreN dX12_layNumbering_333 (by decide) rfl ?_
    refine ma_iincN dX12_layNumbering_335 rfl (by decide) rfl ?_
    refine ma_goto 128 dX12_layNumbering_338 rfl ?_
    exact KN 0 _ (by have w := tr_s (by omega) hT hx; rw [show 4 * i + nm + 1 = 4 * i + (nm + 1) by omega] at w; exact w) hS'
theorem l_X12_lN245 {h : ma_H} {a nx d : Nat} {f0 p0 as mn sm i tt nm v b p nt ns nb : Int} {f N M O R C V : Int → Int} {Q : Option ma_V → ma_H → Nat → Prop} {I : Nat → Int} {x11 x13 : Option ma_V} (hM : h 73 = co 12 (mo I)) (h77 : h 77 = ci 64 f) (hf : PB f) (ht : 0 ≤ tt ∧ tt < 8) (hb : 0 ≤ b ∧ b < 8) (hp : 0 ≤ p ∧ p < 24) (hn : 0 ≤ nt ∧ nt < 24) (hs : 0 ≤ ns ∧ ns < 24) (hv : 0 ≤ v ∧ v < 1000) (hv2 : v % 24 = p) (hN : N b = nb) (hA : ∀ c, 0 ≤ c → c < 4 → M (4 * tt + c) = im nt c) (hB : ∀ c, 0 ≤ c → c < 4 → M (4 * b + c) = im ns c)
    (K : ∀ V, ma_J none mX12_layNumbering (d + 2) 0 0 271 [some (vr 73), some (vr a), some (vi f0), some (vi p0), some (vi as), some (vi mn), some (vi sm), some (vi i), some (vi tt), some (vi nm), some (vi v), some (vi (24 * nb + af ns (af p (iv nt)))), some (vi b), x13] [] (gh h N M O R C V) nx Q) : ma_J none mX12_layNumbering (d + 2) 0 0 245 [some (vr 73), some (vr a), some (vi f0), some (vi p0), some (vi as), some (vi mn), some (vi sm), some (vi i), some (vi tt), some (vi nm), some (vi v), x11, some (vi b), x13] [] (gh h N M O R C V) nx Q := by
  refine ma_bipush dX12_layNumbering_245 ?_
  refine ma_aload_n dX12_layNumbering_247 rfl ?_
  refine ma_getf dX12_layNumbering_248 fX12_24 (by first | exact gh_78 | exact gh_79 | exact gh_80 | exact gh_81 | exact gh_83 | exact gh_84 | exact (gh_n (by first | omega | assumption)).trans (by assumption)) (by rfl) ?_
  refine ma_iload dX12_layNumbering_251 rfl ?_
  refine ma_iald dX12_layNumbering_253 (by first | exact gh_78 | exact gh_79 | exact gh_80 | exact gh_81 | exact gh_83 | exact gh_84 | exact (gh_n (by first | omega | assumption)).trans (by assumption)) (by omega) (by omega) (by omega) ?_
  rw [hN]
  refine ma_imul dX12_layNumbering_254 ?_
  refine ma_aload_n dX12_layNumbering_255 rfl ?_
  refine ma_iload dX12_layNumbering_256 rfl ?_
  refine ma_iload dX12_layNumbering_258 rfl ?_
  refine ma_iload dX12_layNumbering_260 rfl ?_
  refine ma_bipush dX12_layNumbering_262 ?_
  refine ma_kmod dX12_layNumbering_264 (by constructor <;> omega) (by constructor <;> omega) ?_
  refine ma_cV [_, _, _] dX12_layNumbering_265 wX12_renamed lX12_154 iX12_renamed sX12_renamed rfl (by first | exact gh_78 | exact gh_79 | exact gh_80 | exact gh_81 | exact gh_83 | exact gh_84 | exact (gh_n (by first | omega | assumption)).trans (by assumption)) (Nat.le_of_ble_eq_true rfl) ?_
  rw [hv2]
  refine c_X12_renamed (nt := nt) (ns := ns) gh_84 ((gh_n (by omega)).trans hM) gh_79 ((gh_n (by omega)).trans h77) hf ht hb hp hn hs hA hB (fun V' => ?_)
  rw [gh_p84]
  refine ma_iadd dX12_layNumbering_268 ?_
  refine ma_istoreN dX12_layNumbering_269 (by decide) rfl ?_
  exact K V'
def RM (t : Int) (S : BS) (N M O C : Int → Int) : Prop := (∀ s, 0 ≤ s → s < 8 → N s = S.2.1 s) ∧ (∀ j, 0 ≤ j → j < S.1 → O j = S.2.2.1 j) ∧ ∀ s, 0 ≤ s → s < t → 0 ≤ S.2.1 s → ∀ c, 0 ≤ c → c < 4 → M (4 * s + c) = im (S.2.2.2 s) c ∧ C (4 * s + c) = im (iv (S.2.2.2 s)) c
/-- a row's number, in the model's codes -/
theorem bw_cv {t : Int} {G : Int → Int} {f p : Int} {n : Int} (hG : VG t G) (n0 : 0 ≤ n) (I : BI t G (bst G f p n.toNat) n) (hi : n / 4 < (bst G f p n.toNat).1) : vc (brow G f p n) ∧ (bq G (bst G f p n.toNat) n < 0 → brow G f p n = -1) ∧ (0 ≤ bq G (bst G f p n.toNat) n → cv (brow G f p n) = 24 * (bst G f p (n + 1).toNat).2.1 (bq G (bst G f p n.toNat) n / 32) + af ((bst G f p (n + 1).toNat).2.2.2 (bq G (bst G f p n.toNat) n / 32)) (af (bq G (bst G f p n.toNat) n % 32) (iv ((bst G f p n.toNat).2.2.2 ((bst G f p n.toNat).2.2.1 (n / 4)))))) := by
  have ht := hG.1
  obtain ⟨-, hq⟩ := bf_step hG I n0 hi
  obtain ⟨⟨a0, a1⟩, ⟨v0, v1⟩, ⟨m0, m1⟩, hc⟩ := bf_ok hG I n0 hi
  rw [← bst_s G f p n0] at hq
  rcases hc with e | ⟨e, b0, b1, g0, g1⟩
  · have eb : brow G f p n = -1 := by
      unfold brow
      rw [if_pos (by omega)]
    exact ⟨Or.inl eb, fun _ => eb, fun z => by omega⟩
  · obtain ⟨h1, h2, h3, h4⟩ := hq e
    have u : 0 ≤ bp G (bst G f p n.toNat) n ∧ bp G (bst G f p n.toNat) n < 24 := af_in g0 g1 v0 v1
    have w := af_in h3 h4 u.1 u.2
    have eb : brow G f p n = 32 * (bst G f p (n + 1).toNat).2.1 (bq G (bst G f p n.toNat) n / 32) + af ((bst G f p (n + 1).toNat).2.2.2 (bq G (bst G f p n.toNat) n / 32)) (bp G (bst G f p n.toNat) n) := by
      unfold brow
      rw [if_neg (by omega)]
    refine ⟨Or.inr (by rw [eb]; omega), fun z => by omega, fun _ => ?_⟩
    unfold cv
    rw [eb, if_neg (by omega), show (32 * (bst G f p (n + 1).toNat).2.1 (bq G (bst G f p n.toNat) n / 32) + af ((bst G f p (n + 1).toNat).2.2.2 (bq G (bst G f p n.toNat) n / 32)) (bp G (bst G f p n.toNat) n)) / 32 = (bst G f p (n + 1).toNat).2.1 (bq G (bst G f p n.toNat) n / 32) by omega, show (32 * (bst G f p (n + 1).toNat).2.1 (bq G (bst G f p n.toNat) n / 32) + af ((bst G f p (n + 1).toNat).2.2.2 (bq G (bst G f p n.toNat) n / 32)) (bp G (bst G f p n.toNat) n)) % 32 = af ((bst G f p (n + 1).toNat).2.2.2 (bq G (bst G f p n.toNat) n / 32)) (bp G (bst G f p n.toNat) n) by omega]
    rfl
