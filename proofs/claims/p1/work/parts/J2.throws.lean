abbrev mL_glued : ma_M := (yL_glued, cL_glued, 6, some .int)
abbrev mL_row : ma_M := (yL_row, cL_row, 4, some .int)
theorem nglued_nm : ma_nm mL_glued.1 5 = true := by decide +kernel
theorem nrow_nm : ma_nm mL_row.1 3 = true := by decide +kernel
def GDG (x f w : Int) : Prop := (0 ≤ x ∧ x < 1) ∧ (0 ≤ f ∧ f < 4) ∧ 0 ≤ w ∧ w ≤ 2
theorem x_glued {h : ma_H} {d : Nat} {q0 x f w : Int} (hx : h 0 = co 11 (xo q0)) (h1 : h 1 = co 8 [vi 1, vr 2]) (rx : rg x) (rf : rg f) (rw_ : rg w) (bad : ¬ GDG x f w) : ma_Cx mX11_glued (d + 6) [vr 0, vi x, vi f, vi w] h 1000000 := by
  have rw' := rw_
  unfold rg at rw'
  unfold GDG at bad
  refine ma_Cx.of (pc' := 21) (lv' := ma_ent 5 [vr 0, vi x, vi f, vi w]) (by decide +kernel) (Nat.le_of_ble_eq_true rfl) (by omega) rfl (mg_5 12 rfl rfl) (mg_1 20 rfl rfl) ?_ dX11_glued_21 dX11_glued_24 dX11_glued_25 dX11_glued_28
  refine mr_aload_n dX11_glued_0 rfl ?_
  refine mr_getf dX11_glued_1 fX11_10 hx rfl ?_
  refine mr_iload_n dX11_glued_4 rfl ?_
  refine mr_iload_n dX11_glued_5 rfl ?_
  refine mr_cV (d := d + 5) [_, _] dX11_glued_6 wX8_hasCorner lX11_127 iX8_hasCorner sX8_hasCorner rfl h1 (Nat.le_of_ble_eq_true rfl) ?_
  refine c_X8_hasCorner (d := d + 4) h1 (by decide) rx rf (fun z => ⟨rfl, rfl, ?_⟩) (fun z => ⟨rfl, rfl, ?_⟩)
  · refine mr_if_eq 21 dX11_glued_9 rfl (by decide) (fun c => absurd c (by decide)) (fun c => ?_)
    refine mr_iload_n dX11_glued_12 rfl ?_
    refine mr_if_lt 21 dX11_glued_13 rfl rw' (fun c => mr_rf) (fun c => ?_)
    refine mr_iload_n dX11_glued_16 rfl ?_
    refine mr_iconst dX11_glued_17 ?_
    exact mr_icmp_le 29 dX11_glued_18 rfl rw' (by decide) (fun c => absurd ⟨⟨z.1, z.2.1⟩, ⟨z.2.2.1, z.2.2.2⟩, by omega, c⟩ bad) (fun c => mr_rf)
  · exact mr_if_eq 21 dX11_glued_9 rfl (by decide) (fun c => mr_rf) (fun c => absurd rfl c)
theorem x_row {h : ma_H} {d : Nat} {q0 i : Int} {r : ma_V} (hx : h 0 = co 11 (xo q0)) (h31 : h 31 = co 9 [vi 0, r]) (ri : rg i) : ma_Cx mX11_row (d + 6) [vr 0, vi i] h 1000000 := by
  unfold rg at ri
  refine ma_Cx.of (pc' := 15) (lv' := ma_ent 2 [vr 0, vi i]) (by decide +kernel) (Nat.le_of_ble_eq_true rfl) (by omega) rfl (mg_5 12 rfl rfl) (mg_1 20 rfl rfl) ?_ dX11_row_15 dX11_row_18 dX11_row_19 dX11_row_22
  refine mr_iload_n dX11_row_0 rfl ?_
  refine mr_if_lt 15 dX11_row_1 rfl ri (fun c => mr_rf) (fun c => ?_)
  refine mr_iload_n dX11_row_4 rfl ?_
  refine mr_aload_n dX11_row_5 rfl ?_
  refine mr_getf dX11_row_6 fX11_40 hx rfl ?_
  refine mr_getf dX11_row_9 fX11_151 h31 rfl ?_
  exact mr_icmp_lt 23 dX11_row_12 rfl ri (by decide) (fun c => by omega) (fun c => mr_rf)
theorem c_X11_gluedG {h : ma_H} {nx d : Nat} {q0 x f w : Int} {Q : Option ma_V → ma_H → Nat → Prop} (hx : h 0 = co 11 (xo q0)) (h1 : h 1 = co 8 [vi 1, vr 2]) (h2 : h 2 = ci 32 GM) (rx : rg x) (rf : rg f) (rw_ : rg w) (good : GDG x f w) (K : Q (some (vi (-1))) h nx) : ma_Ct mX11_glued (d + 2) 0 0 [vr 0, vi x, vi f, vi w] h nx Q := by
  have rw' := rw_
  unfold rg at rw'
  unfold GDG at good
  refine ma_Ct.of (by decide +kernel) (Nat.le_of_ble_eq_true rfl) ?_
  refine ma_aload_n dX11_glued_0 rfl ?_
  refine ma_getf dX11_glued_1 fX11_10 (by first | exact hx | exact h1 | exact h2) (by rfl) ?_
  refine ma_iload_n dX11_glued_4 rfl ?_
  refine ma_iload_n dX11_glued_5 rfl ?_
  refine ma_cV [_, _] dX11_glued_6 wX8_hasCorner lX11_127 iX8_hasCorner sX8_hasCorner rfl (by first | exact hx | exact h1 | exact h2) (Nat.le_of_ble_eq_true rfl) ?_
  refine c_X8_hasCorner h1 (by decide) rx rf (fun z => ?_) (fun z => absurd ⟨good.1.1, good.1.2, good.2.1.1, good.2.1.2⟩ z)
  refine ma_rif_eq 21 dX11_glued_9 rfl (by decide) (fun c9 => absurd c9 (by decide)) (fun c9 => ?_)
  refine ma_iload_n dX11_glued_12 rfl ?_
  refine ma_rif_lt 21 dX11_glued_13 rfl rw' (fun c13 => by omega) (fun c13 => ?_)
  refine ma_iload_n dX11_glued_16 rfl ?_
  refine ma_iconst dX11_glued_17 ?_
  refine ma_rcmp_le 29 dX11_glued_18 rfl rw' (by decide) (fun c18 => ?_) (fun c18 => by omega)
  refine ma_aload_n dX11_glued_29 rfl ?_
  refine ma_getf dX11_glued_30 fX11_10 (by first | exact hx | exact h1 | exact h2) (by rfl) ?_
  refine ma_getf dX11_glued_33 fX11_134 (by first | exact hx | exact h1 | exact h2) (by rfl) ?_
  refine ma_iconst dX11_glued_36 ?_
  refine ma_iload_n dX11_glued_37 rfl ?_
  refine ma_imul dX11_glued_38 ?_
  refine ma_iload_n dX11_glued_39 rfl ?_
  refine ma_iadd dX11_glued_40 ?_
  refine ma_iald dX11_glued_41 (by first | exact hx | exact h1 | exact h2) (by omega) (by omega) (by omega) ?_
  show ma_J _ _ _ _ _ _ _ (vi (-1) :: _) _ _ _
  refine ma_istoreN dX11_glued_42 (by decide) rfl ?_
  refine ma_iload dX11_glued_44 rfl ?_
  refine ma_rif_ge 51 dX11_glued_46 rfl (by decide) (fun c46 => absurd c46 (by decide)) (fun c46 => ?_)
  refine ma_iconst dX11_glued_49 ?_
  exact ma_iret dX11_glued_50 rfl K
theorem c_L_gluedG {h : ma_H} {nx d mc ms : Nat} {q0 x f w : Int} {F : Int → Int} {Q : Option ma_V → ma_H → Nat → Prop} (hx : h 0 = co 11 (xo q0)) (h1 : h 1 = co 8 [vi 1, vr 2]) (h2 : h 2 = ci 32 GM) (h111 : h 111 = cl 1 F) (rx : rg x) (rf : rg f) (rw_ : rg w) (good : GDG x f w) (K : Q (some (vi 0)) (ma_up h 111 (cl 1 (uf F 0 (iw (-1))))) nx) : ma_CtW mL_glued [(0, 12, 15, 13)] (d + 3) mc ms [vr 0, vi x, vi f, vi w, vr 111] h nx Q := by
  refine ma_CtW.of (by decide +kernel) (Nat.le_of_ble_eq_true rfl) (ma_JT.of ?_)
  refine ma_aload dL_glued_0 rfl ?_
  refine ma_iconst dL_glued_2 ?_
  refine ma_aload_n dL_glued_3 rfl ?_
  refine ma_iload_n dL_glued_4 rfl ?_
  refine ma_iload_n dL_glued_5 rfl ?_
  refine ma_iload_n dL_glued_6 rfl ?_
  refine ma_cV [_, _, _] dL_glued_7 wX11_glued lL_7 iX11_glued sX11_glued rfl (by first | exact hx | exact h111) (Nat.le_of_ble_eq_true rfl) ?_
  refine c_X11_gluedG hx h1 h2 rx rf rw_ good ?_
  refine ma_i2l dL_glued_10 ?_
  refine ma_last dL_glued_11 (by first | exact hx | exact h111) (by omega) (by omega) (by omega) ?_
  refine ma_goto 19 dL_glued_12 rfl ?_
  refine ma_iconst dL_glued_19 ?_
  exact ma_iret dL_glued_20 rfl K
theorem c_L_gluedB {h : ma_H} {d : Nat} {q0 x f w : Int} {Q : Option ma_V → ma_H → Nat → Prop} (hx : h 0 = co 11 (xo q0)) (h1 : h 1 = co 8 [vi 1, vr 2]) (rx : rg x) (rf : rg f) (rw_ : rg w) (bad : ¬ GDG x f w) (K : Q (some (vi 1)) h 1000000) : ma_CtW mL_glued [(0, 12, 15, 13)] (d + 7) 1 6 [vr 0, vi x, vi f, vi w, vr 111] h 1000000 Q := by
  refine ma_CtW.of (by decide +kernel) (Nat.le_of_ble_eq_true rfl) ?_
  refine ma_JT.reach (pc' := 7) (lv' := ma_ent 6 [vr 0, vi x, vi f, vi w, vr 111]) (st' := [vi w, vi f, vi x, vr 0, vi 0, vr 111]) ?_ ?_
  · refine mr_aload dL_glued_0 rfl ?_
    refine mr_iconst dL_glued_2 ?_
    refine mr_aload_n dL_glued_3 rfl ?_
    refine mr_iload_n dL_glued_4 rfl ?_
    refine mr_iload_n dL_glued_5 rfl ?_
    exact mr_iload_n dL_glued_6 rfl mr_rf
  · refine ma_try (kc := 0) (ks := 0) (d' := d + 6) (hp := 17) (x := ⟨0, 12, 15, 13⟩) (st := [vi 0, vr 111]) [vi x, vi f, vi w] dL_glued_7 wX11_glued lL_7 iX11_glued sX11_glued rfl hx (by omega) (Nat.le_of_ble_eq_true rfl) (x_glued hx h1 rx rf rw_ bad) (by decide +kernel) (by decide) (mg_5 7 rfl rfl) (fun p l e R s m args below meth c H locs cells slots ls Z q CX z1 z2 kk => ?_) ?_
    · exact lv_astore CX.1 CX.2.1 dL_glued_15 (lv := []) ⟨z1, z2, fun q hq => by cases hq⟩ (show 5 < 6 by decide) rfl (fun ls' h' => kk ls' h'.1 h'.2.1)
    · refine ma_iconst dL_glued_17 ?_
      exact ma_iret dL_glued_18 rfl K
theorem c_L_rowB {h : ma_H} {d : Nat} {q0 i : Int} {r : ma_V} {Q : Option ma_V → ma_H → Nat → Prop} (hx : h 0 = co 11 (xo q0)) (h31 : h 31 = co 9 [vi 0, r]) (ri : rg i) (K : Q (some (vi 1)) h 1000000) : ma_CtW mL_row [(0, 8, 11, 13)] (d + 7) 1 6 [vr 0, vi i, vr 111] h 1000000 Q := by
  refine ma_CtW.of (by decide +kernel) (Nat.le_of_ble_eq_true rfl) ?_
  refine ma_JT.reach (pc' := 4) (lv' := ma_ent 4 [vr 0, vi i, vr 111]) (st' := [vi i, vr 0, vi 0, vr 111]) ?_ ?_
  · refine mr_aload_n dL_row_0 rfl ?_
    refine mr_iconst dL_row_1 ?_
    refine mr_aload_n dL_row_2 rfl ?_
    exact mr_iload_n dL_row_3 rfl mr_rf
  · refine ma_try (kc := 0) (ks := 0) (d' := d + 6) (hp := 12) (x := ⟨0, 8, 11, 13⟩) (st := [vi 0, vr 111]) [vi i] dL_row_4 wX11_row lL_15 iX11_row sX11_row rfl hx (by omega) (Nat.le_of_ble_eq_true rfl) (x_row hx h31 ri) (by decide +kernel) (by decide) (mg_5 7 rfl rfl) (fun p l e R s m args below meth c H locs cells slots ls Z q CX z1 z2 kk => ?_) ?_
    · exact lv_astore_n CX.1 CX.2.1 dL_row_11 rfl (lv := []) ⟨z1, z2, fun q hq => by cases hq⟩ (show 3 < 4 by decide) rfl (fun ls' h' => kk ls' h'.1 h'.2.1)
    · refine ma_iconst dL_row_12 ?_
      exact ma_iret dL_row_13 rfl K
theorem jcmp_s (x : Int) : jcmp x x = 0 := by
  unfold jcmp
  simp
/-- the model is fresh whatever lies at 111 -/
theorem lw_z1 {h h' : ma_H} {scr : Option (Nat × (Int → Int))} {M0 : ma_M} {d kc ks pc nx : Nat} {lv : List (Option ma_V)} {st : List ma_V} {Q : Option ma_V → ma_H → Nat → Prop} (M : FMD h) (Z : ∀ k, 73 ≤ k → k ≠ 111 → h' k = h k) (K : FMD h' → ma_J scr M0 d kc ks pc lv st h' nx Q) : ma_J scr M0 d kc ks pc lv st h' nx Q := by
  have e : FMD (ma_up h 111 (h' 111)) := by
    obtain ⟨m73, mS, m74, m75, m76, m85, m86, m87, m88, m89, m90, m99, m100, m101, m102, m103, m104, m105, m106, m107, m109, m110⟩ := M
    obtain ⟨A, a, b⟩ := m74
    refine ⟨(ma_up_n (by decide)).trans m73, ⟨fun k hk => ?_, ?_⟩, ⟨A, (ma_up_n (by decide)).trans a, b⟩, (ma_up_n (by decide)).trans m75, (ma_up_n (by decide)).trans m76, (ma_up_n (by decide)).trans m85, (ma_up_n (by decide)).trans m86, (ma_up_n (by decide)).trans m87, (ma_up_n (by decide)).trans m88, (ma_up_n (by decide)).trans m89, (ma_up_n (by decide)).trans m90, (ma_up_n (by decide)).trans m99, (ma_up_n (by decide)).trans m100, (ma_up_n (by decide)).trans m101, (ma_up_n (by decide)).trans m102, (ma_up_n (by decide)).trans m103, (ma_up_n (by decide)).trans m104, (ma_up_n (by decide)).trans m105, (ma_up_n (by decide)).trans m106, (ma_up_n (by decide)).trans m107, (ma_up_n (by decide)).trans m109, (ma_up_n (by decide)).trans m110⟩
    · obtain ⟨f, e⟩ := mS.1 k hk
      exact ⟨f, (ma_up_n (fun z => by rw [z] at hk; exact absurd hk (by decide))).trans e⟩
    · obtain ⟨pf, e, p⟩ := mS.2
      exact ⟨pf, (ma_up_n (by decide)).trans e, p⟩
  refine K (fmd_z e (fun k hk => ?_))
  by_cases z : k = 111
  · rw [z, ma_up_s]
  · rw [ma_up_n z]
    exact Z k hk z
set_option maxHeartbeats 2000000 in
theorem lw_glued {L : Nat} {S : Int → Int} {h : ma_H} {kc ks : Nat} (hL : 5 ≤ L ∧ L < 10) (hS : ∀ i, rg (S i)) (FH : FRC h) (M : FMD h) (h111 : h 111 = cl 1 (fun _ => 0)) : ma_J (some (L, S)) mLw 11 (kc + 1) (ks + 6) 255 [some (vr 2000000), some (vr 0), some (vr 73), some (vr 111), some (vi 0), none, none, none] [] h 1000000 (fun r _ _ => r = some (vi 1)) := by
  obtain ⟨hb, F⟩ := FH
  have X0 : h 0 = co 11 (xo 0) := (F 0 (by decide)).trans ih0_0
  by_cases gd : GDG (S (0 + 1)) (S (0 + 2)) (S (0 + 3))
  · -- it is
    refine ma_aload_n dL_law_255 rfl ?_
    refine ma_aload_n dL_law_256 rfl ?_
    refine ma_iload dL_law_257 rfl ?_
    refine ma_iconst dL_law_259 ?_
    refine ma_iadd dL_law_260 ?_
    refine ma_sald dL_law_261 (by omega) (by omega) (by omega) ?_
    refine ma_aload_n dL_law_262 rfl ?_
    refine ma_iload dL_law_263 rfl ?_
    refine ma_iconst dL_law_265 ?_
    refine ma_iadd dL_law_266 ?_
    refine ma_sald dL_law_267 (by omega) (by omega) (by omega) ?_
    refine ma_aload_n dL_law_268 rfl ?_
    refine ma_iload dL_law_269 rfl ?_
    refine ma_iconst dL_law_271 ?_
    refine ma_iadd dL_law_272 ?_
    refine ma_sald dL_law_273 (by omega) (by omega) (by omega) ?_
    refine ma_aload_n dL_law_274 rfl ?_
    refine ma_callSW (M' := mL_glued) (d' := 10) (mc := 1) (ms := 6) (hh := [(0, 12, 15, 13)]) [_, _, _, _, _] dL_law_275 (mg_5 6 rfl rfl) (mg_1 0 rfl rfl) nglued_nm (by decide) lL_38 (mg_5 5 rfl rfl) (by omega) (Nat.le_of_ble_eq_true rfl) ?_
    refine c_L_gluedG (d := 7) ((F 0 (by decide)).trans ih0_0) ((F 1 (by decide)).trans ih0_1) ((F 2 (by decide)).trans ih0_2) h111 (hS _) (hS _) (hS _) gd ?_
    refine lw_z1 M (fun k hk hk2 => by rw [ma_up_n hk2]) (fun M' => ?_)
    obtain ⟨m73, mS, m74, m75, m76, m85, m86, m87, m88, m89, m90, m99, m100, m101, m102, m103, m104, m105, m106, m107, m109, m110⟩ := M'
    obtain ⟨Aa, m74, mA⟩ := m74
    refine ma_istoreN dL_law_278 (by decide) rfl ?_
    refine ma_aload_n dL_law_280 rfl ?_
    refine ma_aload_n dL_law_281 rfl ?_
    refine ma_iload dL_law_282 rfl ?_
    refine ma_iconst dL_law_284 ?_
    refine ma_iadd dL_law_285 ?_
    refine ma_sald dL_law_286 (by omega) (by omega) (by omega) ?_
    refine ma_aload_n dL_law_287 rfl ?_
    refine ma_iload dL_law_288 rfl ?_
    refine ma_iconst dL_law_290 ?_
    refine ma_iadd dL_law_291 ?_
    refine ma_sald dL_law_292 (by omega) (by omega) (by omega) ?_
    refine ma_aload_n dL_law_293 rfl ?_
    refine ma_iload dL_law_294 rfl ?_
    refine ma_iconst dL_law_296 ?_
    refine ma_iadd dL_law_297 ?_
    refine ma_sald dL_law_298 (by omega) (by omega) (by omega) ?_
    refine ma_cV [_, _, _] dL_law_299 wX12_glued lL_43 iX12_glued sX12_glued rfl (by first | exact m73 | exact ma_up_s _ _ _ | exact (ma_up_n (by decide)).trans (ma_up_s _ _ _)) (Nat.le_of_ble_eq_true rfl) ?_
    refine c_X12_glued m73 m74 gm_vg mA (hS _) (hS _) (hS _) (fun y => absurd gd y) (fun y n => ?_) (fun y n => absurd n (Int.not_le.mpr (gm_n _))) (fun y n => absurd n (Int.not_le.mpr (gm_n _))) (fun y n => absurd n (Int.not_le.mpr (gm_n _)))
    refine ma_istoreN dL_law_302 (by decide) rfl ?_
    refine ma_aload_n dL_law_304 rfl ?_
    refine ma_cV [] dL_law_305 wX12_thrown lL_44 iX12_thrown sX12_thrown rfl (by first | exact m73 | exact ma_up_s _ _ _ | exact (ma_up_n (by decide)).trans (ma_up_s _ _ _)) (Nat.le_of_ble_eq_true rfl) ?_
    refine c_X12_thrown (ma_up_s _ _ _) ?_
    refine ma_iload dL_law_308 rfl ?_
    refine ma_icmp_eq 315 dL_law_310 rfl (fun c310 => ?_) (fun c310 => absurd rfl c310)
    refine ma_iload dL_law_315 rfl ?_
    refine ma_if_ne 332 dL_law_317 rfl (fun c317 => absurd (show iw 0 = 0 by decide +kernel) c317) (fun c317 => ?_)
    refine ma_aload_n dL_law_320 rfl ?_
    refine ma_iconst dL_law_321 ?_
    refine ma_lald dL_law_322 (by first | exact m73 | exact ma_up_s _ _ _ | exact (ma_up_n (by decide)).trans (ma_up_s _ _ _)) (by omega) (by omega) (by omega) ?_
    rw [uf_s]
    refine ma_iload dL_law_323 rfl ?_
    refine ma_i2l dL_law_325 ?_
    refine ma_lcmp dL_law_326 ?_
    rw [jcmp_s]
    refine ma_if_eq 332 dL_law_327 rfl (fun c327 => ?_) (fun c327 => absurd (show iw 0 = 0 by decide +kernel) c327)
    refine ma_goto 1128 dL_law_332 rfl ?_
    exact lw_1128 hL
  · -- it isn't: thrown
    refine ma_aload_n dL_law_255 rfl ?_
    refine ma_aload_n dL_law_256 rfl ?_
    refine ma_iload dL_law_257 rfl ?_
    refine ma_iconst dL_law_259 ?_
    refine ma_iadd dL_law_260 ?_
    refine ma_sald dL_law_261 (by omega) (by omega) (by omega) ?_
    refine ma_aload_n dL_law_262 rfl ?_
    refine ma_iload dL_law_263 rfl ?_
    refine ma_iconst dL_law_265 ?_
    refine ma_iadd dL_law_266 ?_
    refine ma_sald dL_law_267 (by omega) (by omega) (by omega) ?_
    refine ma_aload_n dL_law_268 rfl ?_
    refine ma_iload dL_law_269 rfl ?_
    refine ma_iconst dL_law_271 ?_
    refine ma_iadd dL_law_272 ?_
    refine ma_sald dL_law_273 (by omega) (by omega) (by omega) ?_
    refine ma_aload_n dL_law_274 rfl ?_
    refine ma_callSW (M' := mL_glued) (d' := 10) (mc := 1) (ms := 6) (hh := [(0, 12, 15, 13)]) [_, _, _, _, _] dL_law_275 (mg_5 6 rfl rfl) (mg_1 0 rfl rfl) nglued_nm (by decide) lL_38 (mg_5 5 rfl rfl) (by omega) (Nat.le_of_ble_eq_true rfl) ?_
    refine c_L_gluedB (d := 3) ((F 0 (by decide)).trans ih0_0) ((F 1 (by decide)).trans ih0_1) (hS _) (hS _) (hS _) gd ?_
    refine lw_z1 M (fun k _ _ => rfl) (fun M' => ?_)
    obtain ⟨m73, mS, m74, m75, m76, m85, m86, m87, m88, m89, m90, m99, m100, m101, m102, m103, m104, m105, m106, m107, m109, m110⟩ := M'
    obtain ⟨Aa, m74, mA⟩ := m74
    refine ma_istoreN dL_law_278 (by decide) rfl ?_
    refine ma_aload_n dL_law_280 rfl ?_
    refine ma_aload_n dL_law_281 rfl ?_
    refine ma_iload dL_law_282 rfl ?_
    refine ma_iconst dL_law_284 ?_
    refine ma_iadd dL_law_285 ?_
    refine ma_sald dL_law_286 (by omega) (by omega) (by omega) ?_
    refine ma_aload_n dL_law_287 rfl ?_
    refine ma_iload dL_law_288 rfl ?_
    refine ma_iconst dL_law_290 ?_
    refine ma_iadd dL_law_291 ?_
    refine ma_sald dL_law_292 (by omega) (by omega) (by omega) ?_
    refine ma_aload_n dL_law_293 rfl ?_
    refine ma_iload dL_law_294 rfl ?_
    refine ma_iconst dL_law_296 ?_
    refine ma_iadd dL_law_297 ?_
    refine ma_sald dL_law_298 (by omega) (by omega) (by omega) ?_
    refine ma_cV [_, _, _] dL_law_299 wX12_glued lL_43 iX12_glued sX12_glued rfl (by first | exact m73 | exact ma_up_s _ _ _ | exact (ma_up_n (by decide)).trans (ma_up_s _ _ _)) (Nat.le_of_ble_eq_true rfl) ?_
    refine c_X12_glued m73 m74 gm_vg mA (hS _) (hS _) (hS _) (fun y => ?_) (fun y => absurd y gd) (fun y => absurd y gd) (fun y => absurd y gd) (fun y => absurd y gd)
    refine ma_istoreN dL_law_302 (by decide) rfl ?_
    refine ma_aload_n dL_law_304 rfl ?_
    refine ma_cV [] dL_law_305 wX12_thrown lL_44 iX12_thrown sX12_thrown rfl (by first | exact m73 | exact ma_up_s _ _ _ | exact (ma_up_n (by decide)).trans (ma_up_s _ _ _)) (Nat.le_of_ble_eq_true rfl) ?_
    refine c_X12_thrown (ma_up_s _ _ _) ?_
    refine ma_iload dL_law_308 rfl ?_
    refine ma_icmp_eq 315 dL_law_310 rfl (fun c310 => ?_) (fun c310 => absurd rfl c310)
    refine ma_iload dL_law_315 rfl ?_
    refine ma_if_ne 332 dL_law_317 rfl (fun c317 => ?_) (fun c317 => absurd c317 (show iw 1 ≠ 0 by decide +kernel))
    refine ma_goto 1128 dL_law_332 rfl ?_
    exact lw_1128 hL
set_option maxHeartbeats 2000000 in
theorem lw_row {L : Nat} {S : Int → Int} {h : ma_H} {kc ks : Nat} (hL : 5 ≤ L ∧ L < 10) (hS : ∀ i, rg (S i)) (FH : FRC h) (M : FMD h) : ma_J (some (L, S)) mLw 11 (kc + 1) (ks + 6) 1073 [some (vr 2000000), some (vr 0), some (vr 73), some (vr 111), some (vi 0), none, none, none] [] h 1000000 (fun r _ _ => r = some (vi 1)) := by
  obtain ⟨hb, F⟩ := FH
  have X0 : h 0 = co 11 (xo 0) := (F 0 (by decide)).trans ih0_0
  refine ma_aload_n dL_law_1073 rfl ?_
  refine ma_aload_n dL_law_1074 rfl ?_
  refine ma_iload dL_law_1075 rfl ?_
  refine ma_iconst dL_law_1077 ?_
  refine ma_iadd dL_law_1078 ?_
  refine ma_sald dL_law_1079 (by omega) (by omega) (by omega) ?_
  refine ma_aload_n dL_law_1080 rfl ?_
  refine ma_callSW (M' := mL_row) (d' := 10) (mc := 1) (ms := 6) (hh := [(0, 8, 11, 13)]) [_, _, _] dL_law_1081 (mg_5 76 rfl rfl) (mg_1 0 rfl rfl) nrow_nm (by decide) lL_169 (mg_5 75 rfl rfl) (by omega) (Nat.le_of_ble_eq_true rfl) ?_
  refine c_L_rowB (d := 3) ((F 0 (by decide)).trans ih0_0) ((F 31 (by decide)).trans ih0_31) (hS _) ?_
  refine lw_z M (fun k _ => rfl) (fun M' => ?_)
  obtain ⟨m73, mS, m74, m75, m76, m85, m86, m87, m88, m89, m90, m99, m100, m101, m102, m103, m104, m105, m106, m107, m109, m110⟩ := M'
  refine ma_istoreN dL_law_1084 (by decide) rfl ?_
  refine ma_aload_n dL_law_1086 rfl ?_
  refine ma_aload_n dL_law_1087 rfl ?_
  refine ma_iload dL_law_1088 rfl ?_
  refine ma_iconst dL_law_1090 ?_
  refine ma_iadd dL_law_1091 ?_
  refine ma_sald dL_law_1092 (by omega) (by omega) (by omega) ?_
  refine ma_cV [_] dL_law_1093 wX12_row lL_172 iX12_row sX12_row rfl (by first | exact m73 | exact ma_up_s _ _ _) (Nat.le_of_ble_eq_true rfl) ?_
  refine ma_Ct_h (rh_of m73 m76 m86 m87 m88) ?_
  refine c_X12_row (n := 0) rfl (by decide) (hS _) (fun y => by omega) (fun y => ?_)
  refine ma_lstoreN dL_law_1096 (by decide) rfl ?_
  refine ma_aload_n dL_law_1098 rfl ?_
  refine ma_cV [] dL_law_1099 wX12_thrown lL_44 iX12_thrown sX12_thrown rfl (by first | exact m73 | exact ma_up_s _ _ _) (Nat.le_of_ble_eq_true rfl) ?_
  refine c_X12_thrown (I := iu (iu (fun _ => 0) 5 0) 5 1) rfl ?_
  refine ma_iload dL_law_1102 rfl ?_
  refine ma_icmp_eq 1109 dL_law_1104 rfl (fun c1104 => ?_) (fun c1104 => absurd rfl c1104)
  refine ma_iload dL_law_1109 rfl ?_
  refine ma_if_ne 1125 dL_law_1111 rfl (fun c1111 => ?_) (fun c1111 => absurd c1111 (show iw 1 ≠ 0 by decide +kernel))
  refine ma_goto 1128 dL_law_1125 rfl ?_
  exact lw_1128 hL
