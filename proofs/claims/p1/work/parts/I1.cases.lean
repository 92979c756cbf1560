theorem lw_z {h h' : ma_H} {scr : Option (Nat × (Int → Int))} {M0 : ma_M} {d kc ks pc nx : Nat} {lv : List (Option ma_V)} {st : List ma_V} {Q : Option ma_V → ma_H → Nat → Prop} (M : FMD h) (Z : ∀ k, 73 ≤ k → h' k = h k) (K : FMD h' → ma_J scr M0 d kc ks pc lv st h' nx Q) : ma_J scr M0 d kc ks pc lv st h' nx Q := K (fmd_z M Z)
theorem z256 : ∀ j : Int, 0 ≤ j → j < 80 → 0 ≤ (fun _ : Int => (0 : Int)) j ∧ (fun _ : Int => (0 : Int)) j < 256 := fun _ _ _ => ⟨Int.le_refl 0, show (0 : Int) < 256 by decide⟩
theorem rg_0 : ∀ j : Int, rg ((fun _ : Int => (0 : Int)) j) := fun _ => show rg 0 by unfold rg; decide
theorem rg_m : ∀ j : Int, rg (GM j) := fun _ => show rg (-1) by unfold rg; decide
theorem gm_rA {Aa : Int → Int} (h : AG 1 GM Aa) : ∀ j, 0 ≤ j → j < 33 → rg (Aa j) := fun j a b => by
  by_cases z : j = 0
  · rw [z, h.1]; unfold rg; decide
  · have e := h.2 (j - 1) (by omega) (by omega)
    rw [show (1 + (j - 1) : Int) = j by omega] at e
    rw [e]
    show rg (-1)
    unfold rg
    decide
theorem gm_tok {T : Int → Int} {i : Int} (i0 : 0 ≤ i) (h : TOK T 0 i) : i = 0 := by
  rcases Int.lt_or_eq_of_le i0 with z | z
  · have a := (h 0 (by omega)).1
    have b := ta_ge T 0 0
    omega
  · exact z.symm
theorem gm_fol {T S : Int → Int} {i t e' t' : Int} {G G' : Int → Int} (i0 : 0 ≤ i) (h : TOK T 0 i) (f : FOL S i.toNat 0 t G e' t' G') : t' = t ∧ e' = 0 := by
  rw [gm_tok i0 h] at f
  exact ⟨f.1, f.2.2⟩
theorem gm_fol2 {T S : Int → Int} {i t : Int} {G : Int → Int} (i0 : 0 ≤ i) (h : TOK T 0 i) : FOL S i.toNat 0 t G 0 t G := by
  rw [gm_tok i0 h]
  exact ⟨rfl, rfl, rfl⟩
theorem gm_fl {E P : Int → Int} {fl : Int} (h : (fl = 1 ∧ MF 1 GM E P) ∨ (fl = 0 ∧ ¬ MF 1 GM E P)) : fl = 0 := by
  rcases h with h | h
  · exact absurd h.2 gm_mf
  · exact h.1
theorem fr_bh {h hb : ma_H} (F : ∀ k, k < 73 → h k = ih0 hb k) : h = bh h (fun _ => 0) (fun _ => 0) (fun _ => 0) (fun _ => 0) (fun _ => 0) (fun _ => 0) (fun _ => 0) (fun _ => 0) (fun _ => 0) 0 0 := bh_of ((F 45 (by decide)).trans ih0_45) ((F 46 (by decide)).trans ih0_46) ((F 47 (by decide)).trans ih0_47) ((F 48 (by decide)).trans ih0_48) ((F 49 (by decide)).trans ih0_49) ((F 50 (by decide)).trans ih0_50) ((F 51 (by decide)).trans ih0_51) ((F 52 (by decide)).trans ih0_52) ((F 53 (by decide)).trans ih0_53) ((F 44 (by decide)).trans ih0_44)
theorem fr_bt {h hb : ma_H} (F : ∀ k, k < 73 → h k = ih0 hb k) : h = bh (tq h 0 (fun _ => 0)) (fun _ => 0) (fun _ => 0) (fun _ => 0) (fun _ => 0) (fun _ => 0) (fun _ => 0) (fun _ => 0) (fun _ => 0) (fun _ => 0) 0 0 := (fr_bh F).trans (congrArg (fun g => bh g (fun _ => 0) (fun _ => 0) (fun _ => 0) (fun _ => 0) (fun _ => 0) (fun _ => 0) (fun _ => 0) (fun _ => 0) (fun _ => 0) 0 0) (tq_of ((F 31 (by decide)).trans ih0_31) ((F 32 (by decide)).trans ih0_32)))
theorem fr_sn {h hb : ma_H} (F : ∀ k, k < 73 → h k = ih0 hb k) : SN h := ⟨_, _, _, _, (F 40 (by decide)).trans ih0_40, (F 41 (by decide)).trans ih0_41, (F 42 (by decide)).trans ih0_42, (F 43 (by decide)).trans ih0_43⟩
theorem fr_sv {h hb : ma_H} (F : ∀ k, k < 73 → h k = ih0 hb k) : SV h := ⟨_, _, (F 57 (by decide)).trans ih0_57, (F 58 (by decide)).trans ih0_58⟩
theorem fr_sc {h hb : ma_H} (F : ∀ k, k < 73 → h k = ih0 hb k) : SC h := ⟨(F 54 (by decide)).trans ih0_54, (F 39 (by decide)).trans ih0_39, fr_sn F, fr_sv F, ⟨_, _, _, _, _, _, _, _, _, _, _, (F 45 (by decide)).trans ih0_45, (F 46 (by decide)).trans ih0_46, (F 47 (by decide)).trans ih0_47, (F 48 (by decide)).trans ih0_48, (F 49 (by decide)).trans ih0_49, (F 50 (by decide)).trans ih0_50, (F 51 (by decide)).trans ih0_51, (F 52 (by decide)).trans ih0_52, (F 53 (by decide)).trans ih0_53, (F 44 (by decide)).trans ih0_44⟩, _, _, (F 55 (by decide)).trans ih0_55, (F 56 (by decide)).trans ih0_56⟩
set_option maxHeartbeats 2000000 in
theorem lw_sign {L : Nat} {S : Int → Int} {h : ma_H} {kc ks : Nat} {x5 x6 x7 : Option ma_V} (hL : 5 ≤ L ∧ L < 10) (hS : ∀ i, rg (S i)) (FH : FRC h) (M : FMD h) : ma_J (some (L, S)) mLw 11 kc ks 192 [some (vr 2000000), some (vr 0), some (vr 73), some (vr 111), some (vi 0), x5, x6, x7] [] h 1000000 (fun r _ _ => r = some (vi 1)) := by
  obtain ⟨hb, F⟩ := FH
  have X0 : h 0 = co 11 (xo 0) := (F 0 (by decide)).trans ih0_0
  refine ma_aload_n dL_law_192 rfl ?_
  refine ma_aload_n dL_law_193 rfl ?_
  refine ma_iload dL_law_194 rfl ?_
  refine ma_iconst dL_law_196 ?_
  refine ma_iadd dL_law_197 ?_
  refine ma_sald dL_law_198 (by omega) (by omega) (by omega) ?_
  refine ma_cV [_] dL_law_199 wX11_sign lL_23 iX11_sign sX11_sign rfl (by exact X0) (Nat.le_of_ble_eq_true rfl) ?_
  refine c_X11_sign ((F 0 (by decide)).trans ih0_0) ((F 33 (by decide)).trans ih0_33) ((F 34 (by decide)).trans ih0_34) (by decide) (hS _) (fun z => absurd z (by decide)) (fun z => ?_)
  refine lw_z M (fun k hk => by rw [ma_up_n (by omega), ma_up_n (by omega)]) (fun M' => ?_)
  obtain ⟨m73, mS, m74, m75, m76, m85, m86, m87, m88, m89, m90, m99, m100, m101, m102, m103, m104, m105, m106, m107, m109, m110⟩ := M'
  obtain ⟨Aa, m74, mA⟩ := m74
  refine ma_aload_n dL_law_202 rfl ?_
  refine ma_aload_n dL_law_203 rfl ?_
  refine ma_iload dL_law_204 rfl ?_
  refine ma_iconst dL_law_206 ?_
  refine ma_iadd dL_law_207 ?_
  refine ma_sald dL_law_208 (by omega) (by omega) (by omega) ?_
  refine ma_cV [_] dL_law_209 wX12_sign lL_27 iX12_sign sX12_sign rfl (by exact m73) (Nat.le_of_ble_eq_true rfl) ?_
  refine c_X12_sign m73 m75 rfl (by decide) (hS _) (fun z => absurd z (by decide)) (fun z => ?_)
  exact ma_icmp_eq 1128 dL_law_212 rfl (fun _ => lw_1128 hL) (fun cq => absurd (by first | exact congrArg iw (rfl) | exact (congrArg iw (rfl)).symm) cq)
set_option maxHeartbeats 2000000 in
theorem lw_end {L : Nat} {S : Int → Int} {h : ma_H} {kc ks : Nat} {x5 x6 x7 : Option ma_V} (hL : 5 ≤ L ∧ L < 10) (hS : ∀ i, rg (S i)) (FH : FRC h) (M : FMD h) : ma_J (some (L, S)) mLw 11 kc ks 217 [some (vr 2000000), some (vr 0), some (vr 73), some (vr 111), some (vi 0), x5, x6, x7] [] h 1000000 (fun r _ _ => r = some (vi 1)) := by
  obtain ⟨hb, F⟩ := FH
  have X0 : h 0 = co 11 (xo 0) := (F 0 (by decide)).trans ih0_0
  refine ma_aload_n dL_law_217 rfl ?_
  refine ma_aload_n dL_law_218 rfl ?_
  refine ma_iload dL_law_219 rfl ?_
  refine ma_iconst dL_law_221 ?_
  refine ma_iadd dL_law_222 ?_
  refine ma_sald dL_law_223 (by omega) (by omega) (by omega) ?_
  refine ma_cV [_] dL_law_224 wX11_end lL_28 iX11_end sX11_end rfl (by exact X0) (Nat.le_of_ble_eq_true rfl) ?_
  refine c_X11_end ((F 0 (by decide)).trans ih0_0) ((F 33 (by decide)).trans ih0_33) (by decide) (hS _) (fun z => ?_) (fun z => ?_)
  · -- outcome
    refine lw_z M (fun k _ => rfl) (fun M' => ?_)
    obtain ⟨m73, mS, m74, m75, m76, m85, m86, m87, m88, m89, m90, m99, m100, m101, m102, m103, m104, m105, m106, m107, m109, m110⟩ := M'
    obtain ⟨Aa, m74, mA⟩ := m74
    refine ma_aload_n dL_law_227 rfl ?_
    refine ma_aload_n dL_law_228 rfl ?_
    refine ma_iload dL_law_229 rfl ?_
    refine ma_iconst dL_law_231 ?_
    refine ma_iadd dL_law_232 ?_
    refine ma_sald dL_law_233 (by omega) (by omega) (by omega) ?_
    refine ma_cV [_] dL_law_234 wX12_end lL_32 iX12_end sX12_end rfl (by exact m73) (Nat.le_of_ble_eq_true rfl) ?_
    refine c_X12_end m73 rfl (by decide) (hS _) (fun y => ?_) (fun y => absurd y z)
    exact ma_icmp_eq 1128 dL_law_237 rfl (fun _ => lw_1128 hL) (fun cq => absurd (by first | exact congrArg iw (rfl) | exact (congrArg iw (rfl)).symm) cq)
  · -- outcome
    refine lw_z M (fun k hk => by rw [ma_up_n (by omega)]) (fun M' => ?_)
    obtain ⟨m73, mS, m74, m75, m76, m85, m86, m87, m88, m89, m90, m99, m100, m101, m102, m103, m104, m105, m106, m107, m109, m110⟩ := M'
    obtain ⟨Aa, m74, mA⟩ := m74
    refine ma_aload_n dL_law_227 rfl ?_
    refine ma_aload_n dL_law_228 rfl ?_
    refine ma_iload dL_law_229 rfl ?_
    refine ma_iconst dL_law_231 ?_
    refine ma_iadd dL_law_232 ?_
    refine ma_sald dL_law_233 (by omega) (by omega) (by omega) ?_
    refine ma_cV [_] dL_law_234 wX12_end lL_32 iX12_end sX12_end rfl (by exact m73) (Nat.le_of_ble_eq_true rfl) ?_
    refine c_X12_end m73 rfl (by decide) (hS _) (fun y => absurd z y) (fun y => ?_)
    exact ma_icmp_eq 1128 dL_law_237 rfl (fun _ => lw_1128 hL) (fun cq => absurd (by first | exact congrArg iw (rfl) | exact (congrArg iw (rfl)).symm) cq)
set_option maxHeartbeats 2000000 in
theorem lw_solid {L : Nat} {S : Int → Int} {h : ma_H} {kc ks : Nat} {x5 x6 x7 : Option ma_V} (hL : 5 ≤ L ∧ L < 10) (hS : ∀ i, rg (S i)) (FH : FRC h) (M : FMD h) : ma_J (some (L, S)) mLw 11 kc ks 242 [some (vr 2000000), some (vr 0), some (vr 73), some (vr 111), some (vi 0), x5, x6, x7] [] h 1000000 (fun r _ _ => r = some (vi 1)) := by
  obtain ⟨hb, F⟩ := FH
  have X0 : h 0 = co 11 (xo 0) := (F 0 (by decide)).trans ih0_0
  refine ma_aload_n dL_law_242 rfl ?_
  refine ma_cV [] dL_law_243 wX11_solid lL_33 iX11_solid sX11_solid rfl (by exact X0) (Nat.le_of_ble_eq_true rfl) ?_
  refine c_X11_solid0 ((F 0 (by decide)).trans ih0_0) ((F 33 (by decide)).trans ih0_33) ((F 34 (by decide)).trans ih0_34) ((F 5 (by decide)).trans ih0_5) ((F 6 (by decide)).trans ih0_6) z256 (fun h' kk => ?_)
  refine lw_z M (fun k hk => kk k (by simp; omega)) (fun M' => ?_)
  obtain ⟨m73, mS, m74, m75, m76, m85, m86, m87, m88, m89, m90, m99, m100, m101, m102, m103, m104, m105, m106, m107, m109, m110⟩ := M'
  obtain ⟨Aa, m74, mA⟩ := m74
  refine ma_aload_n dL_law_246 rfl ?_
  refine ma_cV [] dL_law_247 wX12_solid lL_37 iX12_solid sX12_solid rfl (by exact m73) (Nat.le_of_ble_eq_true rfl) ?_
  refine c_X12_solid0 m73 m75 m85 rfl (fun h2 => ?_)
  exact ma_icmp_eq 1128 dL_law_250 rfl (fun _ => lw_1128 hL) (fun cq => absurd (by first | exact congrArg iw (rfl) | exact (congrArg iw (rfl)).symm) cq)
set_option maxHeartbeats 2000000 in
theorem lw_shows {L : Nat} {S : Int → Int} {h : ma_H} {kc ks : Nat} {x5 x6 x7 : Option ma_V} (hL : 5 ≤ L ∧ L < 10) (hS : ∀ i, rg (S i)) (FH : FRC h) (M : FMD h) : ma_J (some (L, S)) mLw 11 kc ks 335 [some (vr 2000000), some (vr 0), some (vr 73), some (vr 111), some (vi 0), x5, x6, x7] [] h 1000000 (fun r _ _ => r = some (vi 1)) := by
  obtain ⟨hb, F⟩ := FH
  have X0 : h 0 = co 11 (xo 0) := (F 0 (by decide)).trans ih0_0
  refine ma_aload_n dL_law_335 rfl ?_
  refine ma_cV [] dL_law_336 wX11_shows lL_47 iX11_shows sX11_shows rfl (by exact X0) (Nat.le_of_ble_eq_true rfl) ?_
  refine ma_Ct_h (tq_of ((F 31 (by decide)).trans ih0_31) ((F 32 (by decide)).trans ih0_32)) ?_
  refine c_X11_shows ((F 0 (by decide)).trans ih0_0) ((F 1 (by decide)).trans ih0_1) ((F 2 (by decide)).trans ih0_2) gm_vg ?_
  refine lw_z M (fun k hk => tq_n (by omega) (by omega)) (fun M' => ?_)
  obtain ⟨m73, mS, m74, m75, m76, m85, m86, m87, m88, m89, m90, m99, m100, m101, m102, m103, m104, m105, m106, m107, m109, m110⟩ := M'
  obtain ⟨Aa, m74, mA⟩ := m74
  refine ma_aload_n dL_law_339 rfl ?_
  refine ma_cV [] dL_law_340 wX12_shows lL_50 iX12_shows sX12_shows rfl (by exact m73) (Nat.le_of_ble_eq_true rfl) ?_
  refine ma_Ct_h (rh_of m73 m76 m86 m87 m88) ?_
  refine c_X12_shows m74 gm_vg mA ?_
  exact ma_icmp_eq 1128 dL_law_343 rfl (fun _ => lw_1128 hL) (fun cq => absurd (by first | exact congrArg iw (rfl) | exact (congrArg iw (rfl)).symm) cq)
set_option maxHeartbeats 2000000 in
theorem lw_sheet {L : Nat} {S : Int → Int} {h : ma_H} {kc ks : Nat} {x5 x6 x7 : Option ma_V} (hL : 5 ≤ L ∧ L < 10) (hS : ∀ i, rg (S i)) (FH : FRC h) (M : FMD h) : ma_J (some (L, S)) mLw 11 kc ks 348 [some (vr 2000000), some (vr 0), some (vr 73), some (vr 111), some (vi 0), x5, x6, x7] [] h 1000000 (fun r _ _ => r = some (vi 1)) := by
  obtain ⟨hb, F⟩ := FH
  have X0 : h 0 = co 11 (xo 0) := (F 0 (by decide)).trans ih0_0
  refine ma_aload_n dL_law_348 rfl ?_
  refine ma_aload_n dL_law_349 rfl ?_
  refine ma_iload dL_law_350 rfl ?_
  refine ma_iconst dL_law_352 ?_
  refine ma_iadd dL_law_353 ?_
  refine ma_sald dL_law_354 (by omega) (by omega) (by omega) ?_
  refine ma_aload_n dL_law_355 rfl ?_
  refine ma_iload dL_law_356 rfl ?_
  refine ma_iconst dL_law_358 ?_
  refine ma_iadd dL_law_359 ?_
  refine ma_sald dL_law_360 (by omega) (by omega) (by omega) ?_
  refine ma_aload_n dL_law_361 rfl ?_
  refine ma_iload dL_law_362 rfl ?_
  refine ma_iconst dL_law_364 ?_
  refine ma_iadd dL_law_365 ?_
  refine ma_sald dL_law_366 (by omega) (by omega) (by omega) ?_
  refine ma_aload_n dL_law_367 rfl ?_
  refine ma_iload dL_law_368 rfl ?_
  refine ma_iconst dL_law_370 ?_
  refine ma_iadd dL_law_371 ?_
  refine ma_sald dL_law_372 (by omega) (by omega) (by omega) ?_
  refine ma_cV [_, _, _, _] dL_law_373 wX11_sheet lL_51 iX11_sheet sX11_sheet rfl (by exact X0) (Nat.le_of_ble_eq_true rfl) ?_
  refine c_X11_sheet0 ((F 0 (by decide)).trans ih0_0) ((F 1 (by decide)).trans ih0_1) ((F 2 (by decide)).trans ih0_2) ((F 5 (by decide)).trans ih0_5) ((F 6 (by decide)).trans ih0_6) ((F 39 (by decide)).trans ih0_39) (fr_sn F) (hS _) (hS _) (fun z => ?_) (fun z => ?_) (fun z => ?_) (fun z h' kk => ?_)
  · -- outcome
    refine lw_z M (fun k _ => rfl) (fun M' => ?_)
    obtain ⟨m73, mS, m74, m75, m76, m85, m86, m87, m88, m89, m90, m99, m100, m101, m102, m103, m104, m105, m106, m107, m109, m110⟩ := M'
    obtain ⟨Aa, m74, mA⟩ := m74
    refine ma_aload_n dL_law_376 rfl ?_
    refine ma_aload_n dL_law_377 rfl ?_
    refine ma_iload dL_law_378 rfl ?_
    refine ma_iconst dL_law_380 ?_
    refine ma_iadd dL_law_381 ?_
    refine ma_sald dL_law_382 (by omega) (by omega) (by omega) ?_
    refine ma_aload_n dL_law_383 rfl ?_
    refine ma_iload dL_law_384 rfl ?_
    refine ma_iconst dL_law_386 ?_
    refine ma_iadd dL_law_387 ?_
    refine ma_sald dL_law_388 (by omega) (by omega) (by omega) ?_
    refine ma_aload_n dL_law_389 rfl ?_
    refine ma_iload dL_law_390 rfl ?_
    refine ma_iconst dL_law_392 ?_
    refine ma_iadd dL_law_393 ?_
    refine ma_sald dL_law_394 (by omega) (by omega) (by omega) ?_
    refine ma_aload_n dL_law_395 rfl ?_
    refine ma_iload dL_law_396 rfl ?_
    refine ma_iconst dL_law_398 ?_
    refine ma_iadd dL_law_399 ?_
    refine ma_sald dL_law_400 (by omega) (by omega) (by omega) ?_
    refine ma_cV [_, _, _, _] dL_law_401 wX12_sheet lL_55 iX12_sheet sX12_sheet rfl (by exact m73) (Nat.le_of_ble_eq_true rfl) ?_
    refine c_X12_sheet0 m73 mS m74 m85 mA (hS _) (hS _) (fun y => ?_) (fun y => by omega) (fun y => by omega) (fun y => by omega)
    exact ma_icmp_eq 1128 dL_law_404 rfl (fun _ => lw_1128 hL) (fun cq => absurd (by first | exact congrArg iw (rfl) | exact (congrArg iw (rfl)).symm) cq)
  · -- outcome
    refine lw_z M (fun k _ => rfl) (fun M' => ?_)
    obtain ⟨m73, mS, m74, m75, m76, m85, m86, m87, m88, m89, m90, m99, m100, m101, m102, m103, m104, m105, m106, m107, m109, m110⟩ := M'
    obtain ⟨Aa, m74, mA⟩ := m74
    refine ma_aload_n dL_law_376 rfl ?_
    refine ma_aload_n dL_law_377 rfl ?_
    refine ma_iload dL_law_378 rfl ?_
    refine ma_iconst dL_law_380 ?_
    refine ma_iadd dL_law_381 ?_
    refine ma_sald dL_law_382 (by omega) (by omega) (by omega) ?_
    refine ma_aload_n dL_law_383 rfl ?_
    refine ma_iload dL_law_384 rfl ?_
    refine ma_iconst dL_law_386 ?_
    refine ma_iadd dL_law_387 ?_
    refine ma_sald dL_law_388 (by omega) (by omega) (by omega) ?_
    refine ma_aload_n dL_law_389 rfl ?_
    refine ma_iload dL_law_390 rfl ?_
    refine ma_iconst dL_law_392 ?_
    refine ma_iadd dL_law_393 ?_
    refine ma_sald dL_law_394 (by omega) (by omega) (by omega) ?_
    refine ma_aload_n dL_law_395 rfl ?_
    refine ma_iload dL_law_396 rfl ?_
    refine ma_iconst dL_law_398 ?_
    refine ma_iadd dL_law_399 ?_
    refine ma_sald dL_law_400 (by omega) (by omega) (by omega) ?_
    refine ma_cV [_, _, _, _] dL_law_401 wX12_sheet lL_55 iX12_sheet sX12_sheet rfl (by exact m73) (Nat.le_of_ble_eq_true rfl) ?_
    refine c_X12_sheet0 m73 mS m74 m85 mA (hS _) (hS _) (fun y => by omega) (fun y => ?_) (fun y => by omega) (fun y => by omega)
    exact ma_icmp_eq 1128 dL_law_404 rfl (fun _ => lw_1128 hL) (fun cq => absurd (by first | exact congrArg iw (rfl) | exact (congrArg iw (rfl)).symm) cq)
  · -- outcome
    refine lw_z M (fun k _ => rfl) (fun M' => ?_)
    obtain ⟨m73, mS, m74, m75, m76, m85, m86, m87, m88, m89, m90, m99, m100, m101, m102, m103, m104, m105, m106, m107, m109, m110⟩ := M'
    obtain ⟨Aa, m74, mA⟩ := m74
    refine ma_aload_n dL_law_376 rfl ?_
    refine ma_aload_n dL_law_377 rfl ?_
    refine ma_iload dL_law_378 rfl ?_
    refine ma_iconst dL_law_380 ?_
    refine ma_iadd dL_law_381 ?_
    refine ma_sald dL_law_382 (by omega) (by omega) (by omega) ?_
    refine ma_aload_n dL_law_383 rfl ?_
    refine ma_iload dL_law_384 rfl ?_
    refine ma_iconst dL_law_386 ?_
    refine ma_iadd dL_law_387 ?_
    refine ma_sald dL_law_388 (by omega) (by omega) (by omega) ?_
    refine ma_aload_n dL_law_389 rfl ?_
    refine ma_iload dL_law_390 rfl ?_
    refine ma_iconst dL_law_392 ?_
    refine ma_iadd dL_law_393 ?_
    refine ma_sald dL_law_394 (by omega) (by omega) (by omega) ?_
    refine ma_aload_n dL_law_395 rfl ?_
    refine ma_iload dL_law_396 rfl ?_
    refine ma_iconst dL_law_398 ?_
    refine ma_iadd dL_law_399 ?_
    refine ma_sald dL_law_400 (by omega) (by omega) (by omega) ?_
    refine ma_cV [_, _, _, _] dL_law_401 wX12_sheet lL_55 iX12_sheet sX12_sheet rfl (by exact m73) (Nat.le_of_ble_eq_true rfl) ?_
    refine c_X12_sheet0 m73 mS m74 m85 mA (hS _) (hS _) (fun y => by omega) (fun y => by omega) (fun y => ?_) (fun y => by omega)
    exact ma_icmp_eq 1128 dL_law_404 rfl (fun _ => lw_1128 hL) (fun cq => absurd (by first | exact congrArg iw (rfl) | exact (congrArg iw (rfl)).symm) cq)
  · -- outcome
    refine lw_z M (fun k hk => kk k (by simp; omega)) (fun M' => ?_)
    obtain ⟨m73, mS, m74, m75, m76, m85, m86, m87, m88, m89, m90, m99, m100, m101, m102, m103, m104, m105, m106, m107, m109, m110⟩ := M'
    obtain ⟨Aa, m74, mA⟩ := m74
    refine ma_aload_n dL_law_376 rfl ?_
    refine ma_aload_n dL_law_377 rfl ?_
    refine ma_iload dL_law_378 rfl ?_
    refine ma_iconst dL_law_380 ?_
    refine ma_iadd dL_law_381 ?_
    refine ma_sald dL_law_382 (by omega) (by omega) (by omega) ?_
    refine ma_aload_n dL_law_383 rfl ?_
    refine ma_iload dL_law_384 rfl ?_
    refine ma_iconst dL_law_386 ?_
    refine ma_iadd dL_law_387 ?_
    refine ma_sald dL_law_388 (by omega) (by omega) (by omega) ?_
    refine ma_aload_n dL_law_389 rfl ?_
    refine ma_iload dL_law_390 rfl ?_
    refine ma_iconst dL_law_392 ?_
    refine ma_iadd dL_law_393 ?_
    refine ma_sald dL_law_394 (by omega) (by omega) (by omega) ?_
    refine ma_aload_n dL_law_395 rfl ?_
    refine ma_iload dL_law_396 rfl ?_
    refine ma_iconst dL_law_398 ?_
    refine ma_iadd dL_law_399 ?_
    refine ma_sald dL_law_400 (by omega) (by omega) (by omega) ?_
    refine ma_cV [_, _, _, _] dL_law_401 wX12_sheet lL_55 iX12_sheet sX12_sheet rfl (by exact m73) (Nat.le_of_ble_eq_true rfl) ?_
    refine c_X12_sheet0 m73 mS m74 m85 mA (hS _) (hS _) (fun y => by omega) (fun y => by omega) (fun y => by omega) (fun y h2 => ?_)
    exact ma_icmp_eq 1128 dL_law_404 rfl (fun _ => lw_1128 hL) (fun cq => absurd (by first | exact congrArg iw (rfl) | exact (congrArg iw (rfl)).symm) cq)
set_option maxHeartbeats 2000000 in
theorem lw_degree {L : Nat} {S : Int → Int} {h : ma_H} {kc ks : Nat} {x5 x6 x7 : Option ma_V} (hL : 5 ≤ L ∧ L < 10) (hS : ∀ i, rg (S i)) (FH : FRC h) (M : FMD h) : ma_J (some (L, S)) mLw 11 kc ks 409 [some (vr 2000000), some (vr 0), some (vr 73), some (vr 111), some (vi 0), x5, x6, x7] [] h 1000000 (fun r _ _ => r = some (vi 1)) := by
  obtain ⟨hb, F⟩ := FH
  have X0 : h 0 = co 11 (xo 0) := (F 0 (by decide)).trans ih0_0
  refine ma_aload_n dL_law_409 rfl ?_
  refine ma_aload_n dL_law_410 rfl ?_
  refine ma_iload dL_law_411 rfl ?_
  refine ma_iconst dL_law_413 ?_
  refine ma_iadd dL_law_414 ?_
  refine ma_sald dL_law_415 (by omega) (by omega) (by omega) ?_
  refine ma_aload_n dL_law_416 rfl ?_
  refine ma_iload dL_law_417 rfl ?_
  refine ma_iconst dL_law_419 ?_
  refine ma_iadd dL_law_420 ?_
  refine ma_sald dL_law_421 (by omega) (by omega) (by omega) ?_
  refine ma_aload_n dL_law_422 rfl ?_
  refine ma_iload dL_law_423 rfl ?_
  refine ma_iconst dL_law_425 ?_
  refine ma_iadd dL_law_426 ?_
  refine ma_sald dL_law_427 (by omega) (by omega) (by omega) ?_
  refine ma_cV [_, _, _] dL_law_428 wX11_degree lL_56 iX11_degree sX11_degree rfl (by exact X0) (Nat.le_of_ble_eq_true rfl) ?_
  refine ma_Ct_h (fr_bt F) ?_
  refine c_X11_degree ((F 0 (by decide)).trans ih0_0) ((F 1 (by decide)).trans ih0_1) ((F 2 (by decide)).trans ih0_2) gm_vg (hS _) (hS _) (hS _) (fun z => ?_) (fun z E P q fl hB hfl => ?_)
  · -- outcome
    refine lw_z M (fun k hk => (bh_n (by omega)).trans (tq_n (by omega) (by omega))) (fun M' => ?_)
    obtain ⟨m73, mS, m74, m75, m76, m85, m86, m87, m88, m89, m90, m99, m100, m101, m102, m103, m104, m105, m106, m107, m109, m110⟩ := M'
    obtain ⟨Aa, m74, mA⟩ := m74
    refine ma_aload_n dL_law_431 rfl ?_
    refine ma_aload_n dL_law_432 rfl ?_
    refine ma_iload dL_law_433 rfl ?_
    refine ma_iconst dL_law_435 ?_
    refine ma_iadd dL_law_436 ?_
    refine ma_sald dL_law_437 (by omega) (by omega) (by omega) ?_
    refine ma_aload_n dL_law_438 rfl ?_
    refine ma_iload dL_law_439 rfl ?_
    refine ma_iconst dL_law_441 ?_
    refine ma_iadd dL_law_442 ?_
    refine ma_sald dL_law_443 (by omega) (by omega) (by omega) ?_
    refine ma_aload_n dL_law_444 rfl ?_
    refine ma_iload dL_law_445 rfl ?_
    refine ma_iconst dL_law_447 ?_
    refine ma_iadd dL_law_448 ?_
    refine ma_sald dL_law_449 (by omega) (by omega) (by omega) ?_
    refine ma_cV [_, _, _] dL_law_450 wX12_degree lL_59 iX12_degree sX12_degree rfl (by exact m73) (Nat.le_of_ble_eq_true rfl) ?_
    refine ma_Ct_h (rh_of m73 m76 m86 m87 m88) ?_
    refine c_X12_degree m74 gm_vg mA (hS _) (hS _) (hS _) (fun y => ?_) (fun y => absurd y z)
    exact ma_icmp_eq 1128 dL_law_453 rfl (fun _ => lw_1128 hL) (fun cq => absurd (by first | exact congrArg iw (rfl) | exact (congrArg iw (rfl)).symm) cq)
  · -- outcome
    refine lw_z M (fun k hk => (bh_n (by omega)).trans (tq_n (by omega) (by omega))) (fun M' => ?_)
    obtain ⟨m73, mS, m74, m75, m76, m85, m86, m87, m88, m89, m90, m99, m100, m101, m102, m103, m104, m105, m106, m107, m109, m110⟩ := M'
    obtain ⟨Aa, m74, mA⟩ := m74
    refine ma_aload_n dL_law_431 rfl ?_
    refine ma_aload_n dL_law_432 rfl ?_
    refine ma_iload dL_law_433 rfl ?_
    refine ma_iconst dL_law_435 ?_
    refine ma_iadd dL_law_436 ?_
    refine ma_sald dL_law_437 (by omega) (by omega) (by omega) ?_
    refine ma_aload_n dL_law_438 rfl ?_
    refine ma_iload dL_law_439 rfl ?_
    refine ma_iconst dL_law_441 ?_
    refine ma_iadd dL_law_442 ?_
    refine ma_sald dL_law_443 (by omega) (by omega) (by omega) ?_
    refine ma_aload_n dL_law_444 rfl ?_
    refine ma_iload dL_law_445 rfl ?_
    refine ma_iconst dL_law_447 ?_
    refine ma_iadd dL_law_448 ?_
    refine ma_sald dL_law_449 (by omega) (by omega) (by omega) ?_
    refine ma_cV [_, _, _] dL_law_450 wX12_degree lL_59 iX12_degree sX12_degree rfl (by exact m73) (Nat.le_of_ble_eq_true rfl) ?_
    refine ma_Ct_h (rh_of m73 m76 m86 m87 m88) ?_
    refine c_X12_degree m74 gm_vg mA (hS _) (hS _) (hS _) (fun y => absurd z y) (fun y E' P' F' R' I' fa fb hB' f1 f2 ir => ?_)
    exact ma_icmp_eq 1128 dL_law_453 rfl (fun _ => lw_1128 hL) (fun cq => absurd (by first | exact congrArg iw (t_deg gm_vg hB hB'.1 (by omega) (by omega)) | exact (congrArg iw (t_deg gm_vg hB hB'.1 (by omega) (by omega))).symm) cq)
set_option maxHeartbeats 2000000 in
theorem lw_point {L : Nat} {S : Int → Int} {h : ma_H} {kc ks : Nat} {x5 x6 x7 : Option ma_V} (hL : 5 ≤ L ∧ L < 10) (hS : ∀ i, rg (S i)) (FH : FRC h) (M : FMD h) : ma_J (some (L, S)) mLw 11 kc ks 458 [some (vr 2000000), some (vr 0), some (vr 73), some (vr 111), some (vi 0), x5, x6, x7] [] h 1000000 (fun r _ _ => r = some (vi 1)) := by
  obtain ⟨hb, F⟩ := FH
  have X0 : h 0 = co 11 (xo 0) := (F 0 (by decide)).trans ih0_0
  refine ma_aload_n dL_law_458 rfl ?_
  refine ma_aload_n dL_law_459 rfl ?_
  refine ma_iload dL_law_460 rfl ?_
  refine ma_iconst dL_law_462 ?_
  refine ma_iadd dL_law_463 ?_
  refine ma_sald dL_law_464 (by omega) (by omega) (by omega) ?_
  refine ma_aload_n dL_law_465 rfl ?_
  refine ma_iload dL_law_466 rfl ?_
  refine ma_iconst dL_law_468 ?_
  refine ma_iadd dL_law_469 ?_
  refine ma_sald dL_law_470 (by omega) (by omega) (by omega) ?_
  refine ma_cV [_, _] dL_law_471 wX11_point lL_60 iX11_point sX11_point rfl (by exact X0) (Nat.le_of_ble_eq_true rfl) ?_
  refine ma_Ct_h (fr_bt F) ?_
  refine c_X11_point ((F 0 (by decide)).trans ih0_0) ((F 1 (by decide)).trans ih0_1) ((F 2 (by decide)).trans ih0_2) gm_vg (hS _) (hS _) (fun z => ?_) (fun z E P q fl hB hfl => ?_)
  · -- outcome
    refine lw_z M (fun k hk => (bh_n (by omega)).trans (tq_n (by omega) (by omega))) (fun M' => ?_)
    obtain ⟨m73, mS, m74, m75, m76, m85, m86, m87, m88, m89, m90, m99, m100, m101, m102, m103, m104, m105, m106, m107, m109, m110⟩ := M'
    obtain ⟨Aa, m74, mA⟩ := m74
    refine ma_aload_n dL_law_474 rfl ?_
    refine ma_aload_n dL_law_475 rfl ?_
    refine ma_iload dL_law_476 rfl ?_
    refine ma_iconst dL_law_478 ?_
    refine ma_iadd dL_law_479 ?_
    refine ma_sald dL_law_480 (by omega) (by omega) (by omega) ?_
    refine ma_aload_n dL_law_481 rfl ?_
    refine ma_iload dL_law_482 rfl ?_
    refine ma_iconst dL_law_484 ?_
    refine ma_iadd dL_law_485 ?_
    refine ma_sald dL_law_486 (by omega) (by omega) (by omega) ?_
    refine ma_cV [_, _] dL_law_487 wX12_point lL_64 iX12_point sX12_point rfl (by exact m73) (Nat.le_of_ble_eq_true rfl) ?_
    refine ma_Ct_h (rh_of m73 m76 m86 m87 m88) ?_
    refine c_X12_point m74 gm_vg mA (hS _) (hS _) (fun y => ?_) (fun y => absurd y z)
    exact ma_icmp_eq 1128 dL_law_490 rfl (fun _ => lw_1128 hL) (fun cq => absurd (by first | exact congrArg iw (rfl) | exact (congrArg iw (rfl)).symm) cq)
  · -- outcome
    refine lw_z M (fun k hk => (bh_n (by omega)).trans (tq_n (by omega) (by omega))) (fun M' => ?_)
    obtain ⟨m73, mS, m74, m75, m76, m85, m86, m87, m88, m89, m90, m99, m100, m101, m102, m103, m104, m105, m106, m107, m109, m110⟩ := M'
    obtain ⟨Aa, m74, mA⟩ := m74
    refine ma_aload_n dL_law_474 rfl ?_
    refine ma_aload_n dL_law_475 rfl ?_
    refine ma_iload dL_law_476 rfl ?_
    refine ma_iconst dL_law_478 ?_
    refine ma_iadd dL_law_479 ?_
    refine ma_sald dL_law_480 (by omega) (by omega) (by omega) ?_
    refine ma_aload_n dL_law_481 rfl ?_
    refine ma_iload dL_law_482 rfl ?_
    refine ma_iconst dL_law_484 ?_
    refine ma_iadd dL_law_485 ?_
    refine ma_sald dL_law_486 (by omega) (by omega) (by omega) ?_
    refine ma_cV [_, _] dL_law_487 wX12_point lL_64 iX12_point sX12_point rfl (by exact m73) (Nat.le_of_ble_eq_true rfl) ?_
    refine ma_Ct_h (rh_of m73 m76 m86 m87 m88) ?_
    refine c_X12_point m74 gm_vg mA (hS _) (hS _) (fun y => absurd z y) (fun y E' P' F' R' I' fa hB' f1 ir => ?_)
    exact ma_icmp_eq 1128 dL_law_490 rfl (fun _ => lw_1128 hL) (fun cq => absurd (by first | exact congrArg iw (t_pt gm_vg hB hB'.1 (by omega) (by omega)) | exact (congrArg iw (t_pt gm_vg hB hB'.1 (by omega) (by omega))).symm) cq)
set_option maxHeartbeats 2000000 in
theorem lw_edges {L : Nat} {S : Int → Int} {h : ma_H} {kc ks : Nat} {x5 x6 x7 : Option ma_V} (hL : 5 ≤ L ∧ L < 10) (hS : ∀ i, rg (S i)) (FH : FRC h) (M : FMD h) : ma_J (some (L, S)) mLw 11 kc ks 495 [some (vr 2000000), some (vr 0), some (vr 73), some (vr 111), some (vi 0), x5, x6, x7] [] h 1000000 (fun r _ _ => r = some (vi 1)) := by
  obtain ⟨hb, F⟩ := FH
  have X0 : h 0 = co 11 (xo 0) := (F 0 (by decide)).trans ih0_0
  refine ma_aload_n dL_law_495 rfl ?_
  refine ma_cV [] dL_law_496 wX11_edges lL_65 iX11_edges sX11_edges rfl (by exact X0) (Nat.le_of_ble_eq_true rfl) ?_
  refine ma_Ct_h (fr_bt F) ?_
  refine c_X11_edges ((F 0 (by decide)).trans ih0_0) ((F 1 (by decide)).trans ih0_1) ((F 2 (by decide)).trans ih0_2) gm_vg (fun E P q hB => ?_)
  refine lw_z M (fun k hk => (bh_n (by omega)).trans (tq_n (by omega) (by omega))) (fun M' => ?_)
  obtain ⟨m73, mS, m74, m75, m76, m85, m86, m87, m88, m89, m90, m99, m100, m101, m102, m103, m104, m105, m106, m107, m109, m110⟩ := M'
  obtain ⟨Aa, m74, mA⟩ := m74
  refine ma_aload_n dL_law_499 rfl ?_
  refine ma_cV [] dL_law_500 wX12_edges lL_68 iX12_edges sX12_edges rfl (by exact m73) (Nat.le_of_ble_eq_true rfl) ?_
  refine ma_Ct_h (rh_of m73 m76 m86 m87 m88) ?_
  refine c_X12_edges m74 gm_vg mA (fun E' P' F' R' fi I' n l m a b hB' n1 hF e1 e2 ir => ?_)
  exact ma_icmp_eq 1128 dL_law_503 rfl (fun _ => lw_1128 hL) (fun cq => absurd (by first | exact congrArg iw ((t_ec gm_vg hB hB'.1).trans hF.1.symm) | exact (congrArg iw ((t_ec gm_vg hB hB'.1).trans hF.1.symm)).symm) cq)
set_option maxHeartbeats 2000000 in
theorem lw_points {L : Nat} {S : Int → Int} {h : ma_H} {kc ks : Nat} {x5 x6 x7 : Option ma_V} (hL : 5 ≤ L ∧ L < 10) (hS : ∀ i, rg (S i)) (FH : FRC h) (M : FMD h) : ma_J (some (L, S)) mLw 11 kc ks 508 [some (vr 2000000), some (vr 0), some (vr 73), some (vr 111), some (vi 0), x5, x6, x7] [] h 1000000 (fun r _ _ => r = some (vi 1)) := by
  obtain ⟨hb, F⟩ := FH
  have X0 : h 0 = co 11 (xo 0) := (F 0 (by decide)).trans ih0_0
  refine ma_aload_n dL_law_508 rfl ?_
  refine ma_cV [] dL_law_509 wX11_points lL_69 iX11_points sX11_points rfl (by exact X0) (Nat.le_of_ble_eq_true rfl) ?_
  refine ma_Ct_h (fr_bt F) ?_
  refine c_X11_points ((F 0 (by decide)).trans ih0_0) ((F 1 (by decide)).trans ih0_1) ((F 2 (by decide)).trans ih0_2) gm_vg (fun E P q hB => ?_)
  refine lw_z M (fun k hk => (bh_n (by omega)).trans (tq_n (by omega) (by omega))) (fun M' => ?_)
  obtain ⟨m73, mS, m74, m75, m76, m85, m86, m87, m88, m89, m90, m99, m100, m101, m102, m103, m104, m105, m106, m107, m109, m110⟩ := M'
  obtain ⟨Aa, m74, mA⟩ := m74
  refine ma_aload_n dL_law_512 rfl ?_
  refine ma_cV [] dL_law_513 wX12_points lL_72 iX12_points sX12_points rfl (by exact m73) (Nat.le_of_ble_eq_true rfl) ?_
  refine ma_Ct_h (rh_of m73 m76 m86 m87 m88) ?_
  refine c_X12_points m74 gm_vg mA (fun E' P' F' R' I' m hB' e1 ir => ?_)
  exact ma_icmp_eq 1128 dL_law_516 rfl (fun _ => lw_1128 hL) (fun cq => absurd (by first | exact congrArg iw (t_pc gm_vg hB hB'.1) | exact (congrArg iw (t_pc gm_vg hB hB'.1)).symm) cq)
set_option maxHeartbeats 2000000 in
theorem lw_manifold {L : Nat} {S : Int → Int} {h : ma_H} {kc ks : Nat} {x5 x6 x7 : Option ma_V} (hL : 5 ≤ L ∧ L < 10) (hS : ∀ i, rg (S i)) (FH : FRC h) (M : FMD h) : ma_J (some (L, S)) mLw 11 kc ks 521 [some (vr 2000000), some (vr 0), some (vr 73), some (vr 111), some (vi 0), x5, x6, x7] [] h 1000000 (fun r _ _ => r = some (vi 1)) := by
  obtain ⟨hb, F⟩ := FH
  have X0 : h 0 = co 11 (xo 0) := (F 0 (by decide)).trans ih0_0
  refine ma_aload_n dL_law_521 rfl ?_
  refine ma_cV [] dL_law_522 wX11_manifold lL_73 iX11_manifold sX11_manifold rfl (by exact X0) (Nat.le_of_ble_eq_true rfl) ?_
  refine ma_Ct_h (fr_bt F) ?_
  refine c_X11_manifold ((F 0 (by decide)).trans ih0_0) ((F 1 (by decide)).trans ih0_1) ((F 2 (by decide)).trans ih0_2) gm_vg (fun E P q fl hB hfl => ?_)
  refine lw_z M (fun k hk => (bh_n (by omega)).trans (tq_n (by omega) (by omega))) (fun M' => ?_)
  obtain ⟨m73, mS, m74, m75, m76, m85, m86, m87, m88, m89, m90, m99, m100, m101, m102, m103, m104, m105, m106, m107, m109, m110⟩ := M'
  obtain ⟨Aa, m74, mA⟩ := m74
  refine ma_aload_n dL_law_525 rfl ?_
  refine ma_cV [] dL_law_526 wX12_manifold lL_76 iX12_manifold sX12_manifold rfl (by exact m73) (Nat.le_of_ble_eq_true rfl) ?_
  refine ma_Ct_h (rh_of m73 m76 m86 m87 m88) ?_
  refine c_X12_manifold m74 gm_vg mA (fun E' P' F' R' fi I' fl' hB' hfl' ir => ?_)
  exact ma_icmp_eq 1128 dL_law_529 rfl (fun _ => lw_1128 hL) (fun cq => absurd (by first | exact congrArg iw ((gm_fl hfl).trans (gm_fl hfl').symm) | exact (congrArg iw ((gm_fl hfl).trans (gm_fl hfl').symm)).symm) cq)
set_option maxHeartbeats 2000000 in
theorem lw_sides {L : Nat} {S : Int → Int} {h : ma_H} {kc ks : Nat} {x5 x6 x7 : Option ma_V} (hL : 5 ≤ L ∧ L < 10) (hS : ∀ i, rg (S i)) (FH : FRC h) (M : FMD h) : ma_J (some (L, S)) mLw 11 kc ks 534 [some (vr 2000000), some (vr 0), some (vr 73), some (vr 111), some (vi 0), x5, x6, x7] [] h 1000000 (fun r _ _ => r = some (vi 1)) := by
  obtain ⟨hb, F⟩ := FH
  have X0 : h 0 = co 11 (xo 0) := (F 0 (by decide)).trans ih0_0
  refine ma_aload_n dL_law_534 rfl ?_
  refine ma_cV [] dL_law_535 wX11_sides lL_77 iX11_sides sX11_sides rfl (by exact X0) (Nat.le_of_ble_eq_true rfl) ?_
  refine ma_Ct_h (tq_of ((F 31 (by decide)).trans ih0_31) ((F 32 (by decide)).trans ih0_32)) ?_
  refine c_X11_sides ((F 0 (by decide)).trans ih0_0) ((F 1 (by decide)).trans ih0_1) ((F 2 (by decide)).trans ih0_2) gm_vg (fun q D e mk => ?_) (fun e => ?_)
  · -- outcome
    refine lw_z M (fun k hk => tq_n (by omega) (by omega)) (fun M' => ?_)
    obtain ⟨m73, mS, m74, m75, m76, m85, m86, m87, m88, m89, m90, m99, m100, m101, m102, m103, m104, m105, m106, m107, m109, m110⟩ := M'
    obtain ⟨Aa, m74, mA⟩ := m74
    refine ma_aload_n dL_law_538 rfl ?_
    refine ma_cV [] dL_law_539 wX12_sides lL_80 iX12_sides sX12_sides rfl (by exact m73) (Nat.le_of_ble_eq_true rfl) ?_
    refine ma_Ct_h (rh_of m73 m76 m86 m87 m88) ?_
    refine c_X12_sides m74 gm_vg mA (fun x a b => by omega) m89 (fun D' b e' mk' => ?_) (fun D' e' => absurd (e.symm.trans e') (by simp))
    exact ma_icmp_eq 1128 dL_law_542 rfl (fun _ => lw_1128 hL) (fun cq => absurd (by first | exact congrArg iw (rfl) | exact (congrArg iw (rfl)).symm) cq)
  · -- outcome
    refine lw_z M (fun k hk => tq_n (by omega) (by omega)) (fun M' => ?_)
    obtain ⟨m73, mS, m74, m75, m76, m85, m86, m87, m88, m89, m90, m99, m100, m101, m102, m103, m104, m105, m106, m107, m109, m110⟩ := M'
    obtain ⟨Aa, m74, mA⟩ := m74
    refine ma_aload_n dL_law_538 rfl ?_
    refine ma_cV [] dL_law_539 wX12_sides lL_80 iX12_sides sX12_sides rfl (by exact m73) (Nat.le_of_ble_eq_true rfl) ?_
    refine ma_Ct_h (rh_of m73 m76 m86 m87 m88) ?_
    refine c_X12_sides m74 gm_vg mA (fun x a b => by omega) m89 (fun D' b e' mk' => absurd (e.symm.trans e') (by simp)) (fun D' e' => ?_)
    exact ma_icmp_eq 1128 dL_law_542 rfl (fun _ => lw_1128 hL) (fun cq => absurd (by first | exact congrArg iw (rfl) | exact (congrArg iw (rfl)).symm) cq)
set_option maxHeartbeats 2000000 in
theorem lw_group {L : Nat} {S : Int → Int} {h : ma_H} {kc ks : Nat} {x5 x6 x7 : Option ma_V} (hL : 5 ≤ L ∧ L < 10) (hS : ∀ i, rg (S i)) (FH : FRC h) (M : FMD h) : ma_J (some (L, S)) mLw 11 kc ks 547 [some (vr 2000000), some (vr 0), some (vr 73), some (vr 111), some (vi 0), x5, x6, x7] [] h 1000000 (fun r _ _ => r = some (vi 1)) := by
  obtain ⟨hb, F⟩ := FH
  have X0 : h 0 = co 11 (xo 0) := (F 0 (by decide)).trans ih0_0
  refine ma_aload_n dL_law_547 rfl ?_
  refine ma_cV [] dL_law_548 wX11_group lL_81 iX11_group sX11_group rfl (by exact X0) (Nat.le_of_ble_eq_true rfl) ?_
  refine ma_Ct_h (fr_bh F) ?_
  refine c_X11_group0 ((F 0 (by decide)).trans ih0_0) ((F 1 (by decide)).trans ih0_1) ((F 2 (by decide)).trans ih0_2) ((F 31 (by decide)).trans ih0_31) ((F 69 (by decide)).trans ih0_69) ((F 70 (by decide)).trans ih0_70) ((F 71 (by decide)).trans ih0_71) (fun h' kk => ?_)
  refine lw_z M (fun k hk => (kk k (by simp; omega)).trans (bh_n (by omega))) (fun M' => ?_)
  obtain ⟨m73, mS, m74, m75, m76, m85, m86, m87, m88, m89, m90, m99, m100, m101, m102, m103, m104, m105, m106, m107, m109, m110⟩ := M'
  obtain ⟨Aa, m74, mA⟩ := m74
  refine ma_aload_n dL_law_551 rfl ?_
  refine ma_cV [] dL_law_552 wX12_group lL_84 iX12_group sX12_group rfl (by exact m73) (Nat.le_of_ble_eq_true rfl) ?_
  refine c_X12_group0 m73 m74 mA m86 m87 m88 m90 (fun h2 => ?_)
  exact ma_icmp_eq 1128 dL_law_555 rfl (fun _ => lw_1128 hL) (fun cq => absurd (by first | exact congrArg iw (rfl) | exact (congrArg iw (rfl)).symm) cq)
set_option maxHeartbeats 2000000 in
theorem lw_euler {L : Nat} {S : Int → Int} {h : ma_H} {kc ks : Nat} {x5 x6 x7 : Option ma_V} (hL : 5 ≤ L ∧ L < 10) (hS : ∀ i, rg (S i)) (FH : FRC h) (M : FMD h) : ma_J (some (L, S)) mLw 11 kc ks 560 [some (vr 2000000), some (vr 0), some (vr 73), some (vr 111), some (vi 0), x5, x6, x7] [] h 1000000 (fun r _ _ => r = some (vi 1)) := by
  obtain ⟨hb, F⟩ := FH
  have X0 : h 0 = co 11 (xo 0) := (F 0 (by decide)).trans ih0_0
  refine ma_aload_n dL_law_560 rfl ?_
  refine ma_cV [] dL_law_561 wX11_euler lL_85 iX11_euler sX11_euler rfl (by exact X0) (Nat.le_of_ble_eq_true rfl) ?_
  refine ma_Ct_h (fr_bt F) ?_
  refine c_X11_euler ((F 0 (by decide)).trans ih0_0) ((F 1 (by decide)).trans ih0_1) ((F 2 (by decide)).trans ih0_2) gm_vg (fun E P q hB => ?_)
  refine lw_z M (fun k hk => (bh_n (by omega)).trans (tq_n (by omega) (by omega))) (fun M' => ?_)
  obtain ⟨m73, mS, m74, m75, m76, m85, m86, m87, m88, m89, m90, m99, m100, m101, m102, m103, m104, m105, m106, m107, m109, m110⟩ := M'
  obtain ⟨Aa, m74, mA⟩ := m74
  refine ma_aload_n dL_law_564 rfl ?_
  refine ma_cV [] dL_law_565 wX12_euler lL_88 iX12_euler sX12_euler rfl (by exact m73) (Nat.le_of_ble_eq_true rfl) ?_
  refine ma_Ct_h (rh_of m73 m76 m86 m87 m88) ?_
  refine c_X12_euler m74 gm_vg mA (fun E' P' F' R' fi n hB' hn => ?_)
  exact ma_icmp_eq 1128 dL_law_568 rfl (fun _ => lw_1128 hL) (fun cq => absurd (by first | exact congrArg iw ((by rw [t_pc gm_vg hB hB'.1, t_ec gm_vg hB hB'.1, hn])) | exact (congrArg iw ((by rw [t_pc gm_vg hB hB'.1, t_ec gm_vg hB hB'.1, hn]))).symm) cq)
set_option maxHeartbeats 2000000 in
theorem lw_alike {L : Nat} {S : Int → Int} {h : ma_H} {kc ks : Nat} {x5 x6 x7 : Option ma_V} (hL : 5 ≤ L ∧ L < 10) (hS : ∀ i, rg (S i)) (FH : FRC h) (M : FMD h) : ma_J (some (L, S)) mLw 11 kc ks 573 [some (vr 2000000), some (vr 0), some (vr 73), some (vr 111), some (vi 0), x5, x6, x7] [] h 1000000 (fun r _ _ => r = some (vi 1)) := by
  obtain ⟨hb, F⟩ := FH
  have X0 : h 0 = co 11 (xo 0) := (F 0 (by decide)).trans ih0_0
  refine ma_aload_n dL_law_573 rfl ?_
  refine ma_cV [] dL_law_574 wX11_alike lL_89 iX11_alike sX11_alike rfl (by exact X0) (Nat.le_of_ble_eq_true rfl) ?_
  refine c_X11_alikeF ((F 0 (by decide)).trans ih0_0) ((F 1 (by decide)).trans ih0_1) ((F 2 (by decide)).trans ih0_2) ((F 5 (by decide)).trans ih0_5) ((F 6 (by decide)).trans ih0_6) ((F 39 (by decide)).trans ih0_39) (fr_sn F) gm_vg gm_cn (fun h' L' ties kk hLI => ?_)
  refine lw_z M (fun k hk => kk k (by simp; omega)) (fun M' => ?_)
  obtain ⟨m73, mS, m74, m75, m76, m85, m86, m87, m88, m89, m90, m99, m100, m101, m102, m103, m104, m105, m106, m107, m109, m110⟩ := M'
  obtain ⟨Aa, m74, mA⟩ := m74
  refine ma_aload_n dL_law_577 rfl ?_
  refine ma_cV [] dL_law_578 wX12_alike lL_92 iX12_alike sX12_alike rfl (by exact m73) (Nat.le_of_ble_eq_true rfl) ?_
  refine c_X12_alike m73 mS m74 m85 gm_vg gm_cn mA (fun h2 I' L2 ties' mp hLI' => ?_)
  exact ma_icmp_eq 1128 dL_law_581 rfl (fun _ => lw_1128 hL) (fun cq => absurd (by first | exact congrArg iw (gm_ties hLI hLI') | exact (congrArg iw (gm_ties hLI hLI')).symm) cq)
set_option maxHeartbeats 2000000 in
theorem lw_two {L : Nat} {S : Int → Int} {h : ma_H} {kc ks : Nat} {x5 x6 x7 : Option ma_V} (hL : 5 ≤ L ∧ L < 10) (hS : ∀ i, rg (S i)) (FH : FRC h) (M : FMD h) : ma_J (some (L, S)) mLw 11 kc ks 586 [some (vr 2000000), some (vr 0), some (vr 73), some (vr 111), some (vi 0), x5, x6, x7] [] h 1000000 (fun r _ _ => r = some (vi 1)) := by
  obtain ⟨hb, F⟩ := FH
  have X0 : h 0 = co 11 (xo 0) := (F 0 (by decide)).trans ih0_0
  refine ma_aload_n dL_law_586 rfl ?_
  refine ma_aload_n dL_law_587 rfl ?_
  refine ma_iload dL_law_588 rfl ?_
  refine ma_iconst dL_law_590 ?_
  refine ma_iadd dL_law_591 ?_
  refine ma_sald dL_law_592 (by omega) (by omega) (by omega) ?_
  refine ma_aload_n dL_law_593 rfl ?_
  refine ma_iload dL_law_594 rfl ?_
  refine ma_iconst dL_law_596 ?_
  refine ma_iadd dL_law_597 ?_
  refine ma_sald dL_law_598 (by omega) (by omega) (by omega) ?_
  refine ma_cV [_, _] dL_law_599 wX11_two lL_93 iX11_two sX11_two rfl (by exact X0) (Nat.le_of_ble_eq_true rfl) ?_
  refine c_X11_two ((F 0 (by decide)).trans ih0_0) (fr_sc F) ((F 1 (by decide)).trans ih0_1) ((F 2 (by decide)).trans ih0_2) ((F 3 (by decide)).trans ih0_3) ((F 4 (by decide)).trans ih0_4) ((F 13 (by decide)).trans ih0_13) ((F 14 (by decide)).trans ih0_14) (by decide) (by decide) rfl ((F 15 (by decide)).trans ih0_15) ((F 16 (by decide)).trans ih0_16) (by decide) (by decide) (by decide) gm_vg gm_cn (hS _) (hS _) (fun z => ?_) (fun h' E P p0 hB hR kk sc e1 e2 => ?_) (fun h' E P C L' ties t1 p0 hB hR ht1 hMR hLI kk sc e1 e2 e3 e4 e5 => ?_)
  · -- outcome
    refine lw_z M (fun k hk => by rw [ma_up_n (by omega), ma_up_n (by omega)]) (fun M' => ?_)
    obtain ⟨m73, mS, m74, m75, m76, m85, m86, m87, m88, m89, m90, m99, m100, m101, m102, m103, m104, m105, m106, m107, m109, m110⟩ := M'
    obtain ⟨Aa, m74, mA⟩ := m74
    refine ma_aload_n dL_law_602 rfl ?_
    refine ma_aload_n dL_law_603 rfl ?_
    refine ma_iload dL_law_604 rfl ?_
    refine ma_iconst dL_law_606 ?_
    refine ma_iadd dL_law_607 ?_
    refine ma_sald dL_law_608 (by omega) (by omega) (by omega) ?_
    refine ma_aload_n dL_law_609 rfl ?_
    refine ma_iload dL_law_610 rfl ?_
    refine ma_iconst dL_law_612 ?_
    refine ma_iadd dL_law_613 ?_
    refine ma_sald dL_law_614 (by omega) (by omega) (by omega) ?_
    refine ma_cV [_, _] dL_law_615 wX12_two lL_96 iX12_two sX12_two rfl (by exact m73) (Nat.le_of_ble_eq_true rfl) ?_
    refine c_X12_two (t1 := 0) (G1 := GM) m73 mS m74 m99 m100 (by decide) gm_vg gm_cn mA (fun a _ => absurd a (Int.not_le.mpr z)) (hS _) (hS _) (fun y h2 k2 a b => ?_) (fun y => absurd y (Int.not_le.mpr z)) (fun y => absurd y (Int.not_le.mpr z))
    exact ma_icmp_eq 1128 dL_law_618 rfl (fun _ => lw_1128 hL) (fun cq => absurd (by first | exact congrArg iw (rfl) | exact (congrArg iw (rfl)).symm) cq)
  · -- outcome
    refine lw_z M (fun k hk => kk k (by simp; omega)) (fun M' => ?_)
    obtain ⟨m73, mS, m74, m75, m76, m85, m86, m87, m88, m89, m90, m99, m100, m101, m102, m103, m104, m105, m106, m107, m109, m110⟩ := M'
    obtain ⟨Aa, m74, mA⟩ := m74
    refine ma_aload_n dL_law_602 rfl ?_
    refine ma_aload_n dL_law_603 rfl ?_
    refine ma_iload dL_law_604 rfl ?_
    refine ma_iconst dL_law_606 ?_
    refine ma_iadd dL_law_607 ?_
    refine ma_sald dL_law_608 (by omega) (by omega) (by omega) ?_
    refine ma_aload_n dL_law_609 rfl ?_
    refine ma_iload dL_law_610 rfl ?_
    refine ma_iconst dL_law_612 ?_
    refine ma_iadd dL_law_613 ?_
    refine ma_sald dL_law_614 (by omega) (by omega) (by omega) ?_
    refine ma_cV [_, _] dL_law_615 wX12_two lL_96 iX12_two sX12_two rfl (by exact m73) (Nat.le_of_ble_eq_true rfl) ?_
    refine c_X12_two (t1 := 0) (G1 := GM) m73 mS m74 m99 m100 (by decide) gm_vg gm_cn mA (fun a b => ((rfe_un gm_vg (by decide) p0 hB hR) b).elim) (hS _) (hS _) (fun y => absurd p0 (Int.not_le.mpr y)) (fun y E' P' hB' hR' h2 I' k2 a b cc e f => ?_) (fun y b => ((rfe_un gm_vg (by decide) p0 hB hR) b).elim)
    exact ma_icmp_eq 1128 dL_law_618 rfl (fun _ => lw_1128 hL) (fun cq => absurd (by first | exact congrArg iw (rf_un gm_vg (by decide) p0 hB hB') | exact (congrArg iw (rf_un gm_vg (by decide) p0 hB hB')).symm) cq)
  · -- outcome
    refine lw_z M (fun k hk => kk k (by simp; omega)) (fun M' => ?_)
    obtain ⟨m73, mS, m74, m75, m76, m85, m86, m87, m88, m89, m90, m99, m100, m101, m102, m103, m104, m105, m106, m107, m109, m110⟩ := M'
    obtain ⟨Aa, m74, mA⟩ := m74
    refine ma_aload_n dL_law_602 rfl ?_
    refine ma_aload_n dL_law_603 rfl ?_
    refine ma_iload dL_law_604 rfl ?_
    refine ma_iconst dL_law_606 ?_
    refine ma_iadd dL_law_607 ?_
    refine ma_sald dL_law_608 (by omega) (by omega) (by omega) ?_
    refine ma_aload_n dL_law_609 rfl ?_
    refine ma_iload dL_law_610 rfl ?_
    refine ma_iconst dL_law_612 ?_
    refine ma_iadd dL_law_613 ?_
    refine ma_sald dL_law_614 (by omega) (by omega) (by omega) ?_
    refine ma_cV [_, _] dL_law_615 wX12_two lL_96 iX12_two sX12_two rfl (by exact m73) (Nat.le_of_ble_eq_true rfl) ?_
    refine c_X12_two (t1 := t1) (G1 := (stl t1 C L')) m73 mS m74 m99 m100 (by decide) gm_vg gm_cn mA (fun _ _ => ⟨ht1, C, L', ties, hMR, hLI, rfl⟩) (hS _) (hS _) (fun y => absurd p0 (Int.not_le.mpr y)) (fun y E' P' hB' hR' => absurd hR' (by rw [← rf_un gm_vg (by decide) p0 hB hB', hR]; decide)) (fun y b h2 I' A' V k2 a q1 q2 q3 q4 q5 q6 q7 => ?_)
    exact ma_icmp_eq 1128 dL_law_618 rfl (fun _ => lw_1128 hL) (fun cq => absurd (by first | exact congrArg iw (rfl) | exact (congrArg iw (rfl)).symm) cq)
set_option maxHeartbeats 2000000 in
theorem lw_three {L : Nat} {S : Int → Int} {h : ma_H} {kc ks : Nat} {x5 x6 x7 : Option ma_V} (hL : 5 ≤ L ∧ L < 10) (hS : ∀ i, rg (S i)) (FH : FRC h) (M : FMD h) : ma_J (some (L, S)) mLw 11 kc ks 623 [some (vr 2000000), some (vr 0), some (vr 73), some (vr 111), some (vi 0), x5, x6, x7] [] h 1000000 (fun r _ _ => r = some (vi 1)) := by
  obtain ⟨hb, F⟩ := FH
  have X0 : h 0 = co 11 (xo 0) := (F 0 (by decide)).trans ih0_0
  refine ma_aload_n dL_law_623 rfl ?_
  refine ma_aload_n dL_law_624 rfl ?_
  refine ma_iload dL_law_625 rfl ?_
  refine ma_iconst dL_law_627 ?_
  refine ma_iadd dL_law_628 ?_
  refine ma_sald dL_law_629 (by omega) (by omega) (by omega) ?_
  refine ma_aload_n dL_law_630 rfl ?_
  refine ma_iload dL_law_631 rfl ?_
  refine ma_iconst dL_law_633 ?_
  refine ma_iadd dL_law_634 ?_
  refine ma_sald dL_law_635 (by omega) (by omega) (by omega) ?_
  refine ma_aload_n dL_law_636 rfl ?_
  refine ma_iload dL_law_637 rfl ?_
  refine ma_iconst dL_law_639 ?_
  refine ma_iadd dL_law_640 ?_
  refine ma_sald dL_law_641 (by omega) (by omega) (by omega) ?_
  refine ma_cV [_, _, _] dL_law_642 wX11_three lL_97 iX11_three sX11_three rfl (by exact X0) (Nat.le_of_ble_eq_true rfl) ?_
  refine c_X11_three ((F 0 (by decide)).trans ih0_0) (fr_sc F) ((F 1 (by decide)).trans ih0_1) ((F 2 (by decide)).trans ih0_2) ((F 3 (by decide)).trans ih0_3) ((F 4 (by decide)).trans ih0_4) ((F 13 (by decide)).trans ih0_13) ((F 14 (by decide)).trans ih0_14) (by decide) (by decide) rfl ((F 15 (by decide)).trans ih0_15) ((F 16 (by decide)).trans ih0_16) (by decide) (by decide) (by decide) gm_vg gm_cn (hS _) (hS _) (hS _) (fun z => ?_) (fun h' E P p0 hB hR kk sc e1 e2 => ?_) (fun h' E P C L' ties t1 p0 hB hR ht1 hMR hLI kk sc e1 e2 e3 e4 e5 => ?_)
  · -- outcome
    refine lw_z M (fun k hk => by rw [ma_up_n (by omega), ma_up_n (by omega)]) (fun M' => ?_)
    obtain ⟨m73, mS, m74, m75, m76, m85, m86, m87, m88, m89, m90, m99, m100, m101, m102, m103, m104, m105, m106, m107, m109, m110⟩ := M'
    obtain ⟨Aa, m74, mA⟩ := m74
    refine ma_aload_n dL_law_645 rfl ?_
    refine ma_aload_n dL_law_646 rfl ?_
    refine ma_iload dL_law_647 rfl ?_
    refine ma_iconst dL_law_649 ?_
    refine ma_iadd dL_law_650 ?_
    refine ma_sald dL_law_651 (by omega) (by omega) (by omega) ?_
    refine ma_aload_n dL_law_652 rfl ?_
    refine ma_iload dL_law_653 rfl ?_
    refine ma_iconst dL_law_655 ?_
    refine ma_iadd dL_law_656 ?_
    refine ma_sald dL_law_657 (by omega) (by omega) (by omega) ?_
    refine ma_aload_n dL_law_658 rfl ?_
    refine ma_iload dL_law_659 rfl ?_
    refine ma_iconst dL_law_661 ?_
    refine ma_iadd dL_law_662 ?_
    refine ma_sald dL_law_663 (by omega) (by omega) (by omega) ?_
    refine ma_cV [_, _, _] dL_law_664 wX12_three lL_100 iX12_three sX12_three rfl (by exact m73) (Nat.le_of_ble_eq_true rfl) ?_
    refine c_X12_three (t1 := 0) (G1 := GM) m73 mS m74 m99 m100 (by decide) gm_vg gm_cn mA (fun a _ => absurd a (Int.not_le.mpr z)) (hS _) (hS _) (hS _) (fun y h2 k2 a b => ?_) (fun y => absurd y (Int.not_le.mpr z)) (fun y => absurd y (Int.not_le.mpr z))
    exact ma_icmp_eq 1128 dL_law_667 rfl (fun _ => lw_1128 hL) (fun cq => absurd (by first | exact congrArg iw (rfl) | exact (congrArg iw (rfl)).symm) cq)
  · -- outcome
    refine lw_z M (fun k hk => kk k (by simp; omega)) (fun M' => ?_)
    obtain ⟨m73, mS, m74, m75, m76, m85, m86, m87, m88, m89, m90, m99, m100, m101, m102, m103, m104, m105, m106, m107, m109, m110⟩ := M'
    obtain ⟨Aa, m74, mA⟩ := m74
    refine ma_aload_n dL_law_645 rfl ?_
    refine ma_aload_n dL_law_646 rfl ?_
    refine ma_iload dL_law_647 rfl ?_
    refine ma_iconst dL_law_649 ?_
    refine ma_iadd dL_law_650 ?_
    refine ma_sald dL_law_651 (by omega) (by omega) (by omega) ?_
    refine ma_aload_n dL_law_652 rfl ?_
    refine ma_iload dL_law_653 rfl ?_
    refine ma_iconst dL_law_655 ?_
    refine ma_iadd dL_law_656 ?_
    refine ma_sald dL_law_657 (by omega) (by omega) (by omega) ?_
    refine ma_aload_n dL_law_658 rfl ?_
    refine ma_iload dL_law_659 rfl ?_
    refine ma_iconst dL_law_661 ?_
    refine ma_iadd dL_law_662 ?_
    refine ma_sald dL_law_663 (by omega) (by omega) (by omega) ?_
    refine ma_cV [_, _, _] dL_law_664 wX12_three lL_100 iX12_three sX12_three rfl (by exact m73) (Nat.le_of_ble_eq_true rfl) ?_
    refine c_X12_three (t1 := 0) (G1 := GM) m73 mS m74 m99 m100 (by decide) gm_vg gm_cn mA (fun a b => ((rfe_un gm_vg (by decide) p0 hB hR) b).elim) (hS _) (hS _) (hS _) (fun y => absurd p0 (Int.not_le.mpr y)) (fun y E' P' hB' hR' h2 I' k2 a b cc e f => ?_) (fun y b => ((rfe_un gm_vg (by decide) p0 hB hR) b).elim)
    exact ma_icmp_eq 1128 dL_law_667 rfl (fun _ => lw_1128 hL) (fun cq => absurd (by first | exact congrArg iw (rf_un gm_vg (by decide) p0 hB hB') | exact (congrArg iw (rf_un gm_vg (by decide) p0 hB hB')).symm) cq)
  · -- outcome
    refine lw_z M (fun k hk => kk k (by simp; omega)) (fun M' => ?_)
    obtain ⟨m73, mS, m74, m75, m76, m85, m86, m87, m88, m89, m90, m99, m100, m101, m102, m103, m104, m105, m106, m107, m109, m110⟩ := M'
    obtain ⟨Aa, m74, mA⟩ := m74
    refine ma_aload_n dL_law_645 rfl ?_
    refine ma_aload_n dL_law_646 rfl ?_
    refine ma_iload dL_law_647 rfl ?_
    refine ma_iconst dL_law_649 ?_
    refine ma_iadd dL_law_650 ?_
    refine ma_sald dL_law_651 (by omega) (by omega) (by omega) ?_
    refine ma_aload_n dL_law_652 rfl ?_
    refine ma_iload dL_law_653 rfl ?_
    refine ma_iconst dL_law_655 ?_
    refine ma_iadd dL_law_656 ?_
    refine ma_sald dL_law_657 (by omega) (by omega) (by omega) ?_
    refine ma_aload_n dL_law_658 rfl ?_
    refine ma_iload dL_law_659 rfl ?_
    refine ma_iconst dL_law_661 ?_
    refine ma_iadd dL_law_662 ?_
    refine ma_sald dL_law_663 (by omega) (by omega) (by omega) ?_
    refine ma_cV [_, _, _] dL_law_664 wX12_three lL_100 iX12_three sX12_three rfl (by exact m73) (Nat.le_of_ble_eq_true rfl) ?_
    refine c_X12_three (t1 := t1) (G1 := (stl t1 C L')) m73 mS m74 m99 m100 (by decide) gm_vg gm_cn mA (fun _ _ => ⟨ht1, C, L', ties, hMR, hLI, rfl⟩) (hS _) (hS _) (hS _) (fun y => absurd p0 (Int.not_le.mpr y)) (fun y E' P' hB' hR' => absurd hR' (by rw [← rf_un gm_vg (by decide) p0 hB hB', hR]; decide)) (fun y b h2 I' A' V k2 a q1 q2 q3 q4 q5 q6 q7 => ?_)
    exact ma_icmp_eq 1128 dL_law_667 rfl (fun _ => lw_1128 hL) (fun cq => absurd (by first | exact congrArg iw (rfl) | exact (congrArg iw (rfl)).symm) cq)
set_option maxHeartbeats 2000000 in
theorem lw_one {L : Nat} {S : Int → Int} {h : ma_H} {kc ks : Nat} {x5 x6 x7 : Option ma_V} (hL : 5 ≤ L ∧ L < 10) (hS : ∀ i, rg (S i)) (FH : FRC h) (M : FMD h) : ma_J (some (L, S)) mLw 11 kc ks 672 [some (vr 2000000), some (vr 0), some (vr 73), some (vr 111), some (vi 0), x5, x6, x7] [] h 1000000 (fun r _ _ => r = some (vi 1)) := by
  obtain ⟨hb, F⟩ := FH
  have X0 : h 0 = co 11 (xo 0) := (F 0 (by decide)).trans ih0_0
  refine ma_aload_n dL_law_672 rfl ?_
  refine ma_aload_n dL_law_673 rfl ?_
  refine ma_iload dL_law_674 rfl ?_
  refine ma_iconst dL_law_676 ?_
  refine ma_iadd dL_law_677 ?_
  refine ma_sald dL_law_678 (by omega) (by omega) (by omega) ?_
  refine ma_cV [_] dL_law_679 wX11_one lL_101 iX11_one sX11_one rfl (by exact X0) (Nat.le_of_ble_eq_true rfl) ?_
  refine c_X11_one ((F 0 (by decide)).trans ih0_0) (fr_sc F) ((F 1 (by decide)).trans ih0_1) ((F 2 (by decide)).trans ih0_2) ((F 3 (by decide)).trans ih0_3) ((F 4 (by decide)).trans ih0_4) ((F 13 (by decide)).trans ih0_13) ((F 14 (by decide)).trans ih0_14) (by decide) (by decide) rfl ((F 15 (by decide)).trans ih0_15) ((F 16 (by decide)).trans ih0_16) (by decide) (by decide) (by decide) gm_vg gm_cn (hS _) (fun z => ?_) (fun h' E P p0 hB hR kk sc e1 e2 => ?_) (fun h' E P C L' ties t1 p0 hB hR ht1 hMR hLI kk sc e1 e2 e3 e4 e5 => ?_)
  · -- outcome
    refine lw_z M (fun k hk => by rw [ma_up_n (by omega), ma_up_n (by omega)]) (fun M' => ?_)
    obtain ⟨m73, mS, m74, m75, m76, m85, m86, m87, m88, m89, m90, m99, m100, m101, m102, m103, m104, m105, m106, m107, m109, m110⟩ := M'
    obtain ⟨Aa, m74, mA⟩ := m74
    refine ma_aload_n dL_law_682 rfl ?_
    refine ma_aload_n dL_law_683 rfl ?_
    refine ma_iload dL_law_684 rfl ?_
    refine ma_iconst dL_law_686 ?_
    refine ma_iadd dL_law_687 ?_
    refine ma_sald dL_law_688 (by omega) (by omega) (by omega) ?_
    refine ma_cV [_] dL_law_689 wX12_one lL_104 iX12_one sX12_one rfl (by exact m73) (Nat.le_of_ble_eq_true rfl) ?_
    refine c_X12_one (t1 := 0) (G1 := GM) m73 mS m74 m99 m100 (by decide) gm_vg gm_cn mA (fun a _ => absurd a (Int.not_le.mpr z)) (hS _) (fun y h2 k2 a b => ?_) (fun y => absurd y (Int.not_le.mpr z)) (fun y => absurd y (Int.not_le.mpr z))
    exact ma_icmp_eq 1128 dL_law_692 rfl (fun _ => lw_1128 hL) (fun cq => absurd (by first | exact congrArg iw (rfl) | exact (congrArg iw (rfl)).symm) cq)
  · -- outcome
    refine lw_z M (fun k hk => kk k (by simp; omega)) (fun M' => ?_)
    obtain ⟨m73, mS, m74, m75, m76, m85, m86, m87, m88, m89, m90, m99, m100, m101, m102, m103, m104, m105, m106, m107, m109, m110⟩ := M'
    obtain ⟨Aa, m74, mA⟩ := m74
    refine ma_aload_n dL_law_682 rfl ?_
    refine ma_aload_n dL_law_683 rfl ?_
    refine ma_iload dL_law_684 rfl ?_
    refine ma_iconst dL_law_686 ?_
    refine ma_iadd dL_law_687 ?_
    refine ma_sald dL_law_688 (by omega) (by omega) (by omega) ?_
    refine ma_cV [_] dL_law_689 wX12_one lL_104 iX12_one sX12_one rfl (by exact m73) (Nat.le_of_ble_eq_true rfl) ?_
    refine c_X12_one (t1 := 0) (G1 := GM) m73 mS m74 m99 m100 (by decide) gm_vg gm_cn mA (fun a b => ((rfe_un gm_vg (by decide) p0 hB hR) b).elim) (hS _) (fun y => absurd p0 (Int.not_le.mpr y)) (fun y E' P' hB' hR' h2 I' k2 a b cc e f => ?_) (fun y b => ((rfe_un gm_vg (by decide) p0 hB hR) b).elim)
    exact ma_icmp_eq 1128 dL_law_692 rfl (fun _ => lw_1128 hL) (fun cq => absurd (by first | exact congrArg iw (rf_un gm_vg (by decide) p0 hB hB') | exact (congrArg iw (rf_un gm_vg (by decide) p0 hB hB')).symm) cq)
  · -- outcome
    refine lw_z M (fun k hk => kk k (by simp; omega)) (fun M' => ?_)
    obtain ⟨m73, mS, m74, m75, m76, m85, m86, m87, m88, m89, m90, m99, m100, m101, m102, m103, m104, m105, m106, m107, m109, m110⟩ := M'
    obtain ⟨Aa, m74, mA⟩ := m74
    refine ma_aload_n dL_law_682 rfl ?_
    refine ma_aload_n dL_law_683 rfl ?_
    refine ma_iload dL_law_684 rfl ?_
    refine ma_iconst dL_law_686 ?_
    refine ma_iadd dL_law_687 ?_
    refine ma_sald dL_law_688 (by omega) (by omega) (by omega) ?_
    refine ma_cV [_] dL_law_689 wX12_one lL_104 iX12_one sX12_one rfl (by exact m73) (Nat.le_of_ble_eq_true rfl) ?_
    refine c_X12_one (t1 := t1) (G1 := (stl t1 C L')) m73 mS m74 m99 m100 (by decide) gm_vg gm_cn mA (fun _ _ => ⟨ht1, C, L', ties, hMR, hLI, rfl⟩) (hS _) (fun y => absurd p0 (Int.not_le.mpr y)) (fun y E' P' hB' hR' => absurd hR' (by rw [← rf_un gm_vg (by decide) p0 hB hB', hR]; decide)) (fun y b h2 I' A' V k2 a q1 q2 q3 q4 q5 q6 q7 => ?_)
    exact ma_icmp_eq 1128 dL_law_692 rfl (fun _ => lw_1128 hL) (fun cq => absurd (by first | exact congrArg iw (rfl) | exact (congrArg iw (rfl)).symm) cq)
set_option maxHeartbeats 2000000 in
theorem lw_four {L : Nat} {S : Int → Int} {h : ma_H} {kc ks : Nat} {x5 x6 x7 : Option ma_V} (hL : 5 ≤ L ∧ L < 10) (hS : ∀ i, rg (S i)) (FH : FRC h) (M : FMD h) : ma_J (some (L, S)) mLw 11 kc ks 697 [some (vr 2000000), some (vr 0), some (vr 73), some (vr 111), some (vi 0), x5, x6, x7] [] h 1000000 (fun r _ _ => r = some (vi 1)) := by
  obtain ⟨hb, F⟩ := FH
  have X0 : h 0 = co 11 (xo 0) := (F 0 (by decide)).trans ih0_0
  refine ma_aload_n dL_law_697 rfl ?_
  refine ma_aload_n dL_law_698 rfl ?_
  refine ma_iload dL_law_699 rfl ?_
  refine ma_iconst dL_law_701 ?_
  refine ma_iadd dL_law_702 ?_
  refine ma_sald dL_law_703 (by omega) (by omega) (by omega) ?_
  refine ma_aload_n dL_law_704 rfl ?_
  refine ma_iload dL_law_705 rfl ?_
  refine ma_iconst dL_law_707 ?_
  refine ma_iadd dL_law_708 ?_
  refine ma_sald dL_law_709 (by omega) (by omega) (by omega) ?_
  refine ma_cV [_, _] dL_law_710 wX11_four lL_105 iX11_four sX11_four rfl (by exact X0) (Nat.le_of_ble_eq_true rfl) ?_
  refine c_X11_four ((F 0 (by decide)).trans ih0_0) (fr_sc F) ((F 1 (by decide)).trans ih0_1) ((F 2 (by decide)).trans ih0_2) ((F 3 (by decide)).trans ih0_3) ((F 4 (by decide)).trans ih0_4) ((F 13 (by decide)).trans ih0_13) ((F 14 (by decide)).trans ih0_14) (by decide) (by decide) rfl ((F 15 (by decide)).trans ih0_15) ((F 16 (by decide)).trans ih0_16) (by decide) (by decide) (by decide) gm_vg gm_cn (hS _) (hS _) (fun z => ?_) (fun h' E P p0 hB hR kk sc e1 e2 => ?_) (fun h' E P C L' ties t1 p0 hB hR ht1 hMR hLI kk sc e1 e2 e3 e4 e5 => ?_)
  · -- outcome
    refine lw_z M (fun k hk => by rw [ma_up_n (by omega), ma_up_n (by omega)]) (fun M' => ?_)
    obtain ⟨m73, mS, m74, m75, m76, m85, m86, m87, m88, m89, m90, m99, m100, m101, m102, m103, m104, m105, m106, m107, m109, m110⟩ := M'
    obtain ⟨Aa, m74, mA⟩ := m74
    refine ma_aload_n dL_law_713 rfl ?_
    refine ma_aload_n dL_law_714 rfl ?_
    refine ma_iload dL_law_715 rfl ?_
    refine ma_iconst dL_law_717 ?_
    refine ma_iadd dL_law_718 ?_
    refine ma_sald dL_law_719 (by omega) (by omega) (by omega) ?_
    refine ma_aload_n dL_law_720 rfl ?_
    refine ma_iload dL_law_721 rfl ?_
    refine ma_iconst dL_law_723 ?_
    refine ma_iadd dL_law_724 ?_
    refine ma_sald dL_law_725 (by omega) (by omega) (by omega) ?_
    refine ma_cV [_, _] dL_law_726 wX12_four lL_108 iX12_four sX12_four rfl (by exact m73) (Nat.le_of_ble_eq_true rfl) ?_
    refine c_X12_four (t1 := 0) (G1 := GM) m73 mS m74 m99 m100 (by decide) gm_vg gm_cn mA (fun a _ => absurd a (Int.not_le.mpr z)) (hS _) (hS _) (fun y h2 k2 a b => ?_) (fun y => absurd y (Int.not_le.mpr z)) (fun y => absurd y (Int.not_le.mpr z))
    exact ma_icmp_eq 1128 dL_law_729 rfl (fun _ => lw_1128 hL) (fun cq => absurd (by first | exact congrArg iw (rfl) | exact (congrArg iw (rfl)).symm) cq)
  · -- outcome
    refine lw_z M (fun k hk => kk k (by simp; omega)) (fun M' => ?_)
    obtain ⟨m73, mS, m74, m75, m76, m85, m86, m87, m88, m89, m90, m99, m100, m101, m102, m103, m104, m105, m106, m107, m109, m110⟩ := M'
    obtain ⟨Aa, m74, mA⟩ := m74
    refine ma_aload_n dL_law_713 rfl ?_
    refine ma_aload_n dL_law_714 rfl ?_
    refine ma_iload dL_law_715 rfl ?_
    refine ma_iconst dL_law_717 ?_
    refine ma_iadd dL_law_718 ?_
    refine ma_sald dL_law_719 (by omega) (by omega) (by omega) ?_
    refine ma_aload_n dL_law_720 rfl ?_
    refine ma_iload dL_law_721 rfl ?_
    refine ma_iconst dL_law_723 ?_
    refine ma_iadd dL_law_724 ?_
    refine ma_sald dL_law_725 (by omega) (by omega) (by omega) ?_
    refine ma_cV [_, _] dL_law_726 wX12_four lL_108 iX12_four sX12_four rfl (by exact m73) (Nat.le_of_ble_eq_true rfl) ?_
    refine c_X12_four (t1 := 0) (G1 := GM) m73 mS m74 m99 m100 (by decide) gm_vg gm_cn mA (fun a b => ((rfe_un gm_vg (by decide) p0 hB hR) b).elim) (hS _) (hS _) (fun y => absurd p0 (Int.not_le.mpr y)) (fun y E' P' hB' hR' h2 I' k2 a b cc e f => ?_) (fun y b => ((rfe_un gm_vg (by decide) p0 hB hR) b).elim)
    exact ma_icmp_eq 1128 dL_law_729 rfl (fun _ => lw_1128 hL) (fun cq => absurd (by first | exact congrArg iw (rf_un gm_vg (by decide) p0 hB hB') | exact (congrArg iw (rf_un gm_vg (by decide) p0 hB hB')).symm) cq)
  · -- outcome
    refine lw_z M (fun k hk => kk k (by simp; omega)) (fun M' => ?_)
    obtain ⟨m73, mS, m74, m75, m76, m85, m86, m87, m88, m89, m90, m99, m100, m101, m102, m103, m104, m105, m106, m107, m109, m110⟩ := M'
    obtain ⟨Aa, m74, mA⟩ := m74
    refine ma_aload_n dL_law_713 rfl ?_
    refine ma_aload_n dL_law_714 rfl ?_
    refine ma_iload dL_law_715 rfl ?_
    refine ma_iconst dL_law_717 ?_
    refine ma_iadd dL_law_718 ?_
    refine ma_sald dL_law_719 (by omega) (by omega) (by omega) ?_
    refine ma_aload_n dL_law_720 rfl ?_
    refine ma_iload dL_law_721 rfl ?_
    refine ma_iconst dL_law_723 ?_
    refine ma_iadd dL_law_724 ?_
    refine ma_sald dL_law_725 (by omega) (by omega) (by omega) ?_
    refine ma_cV [_, _] dL_law_726 wX12_four lL_108 iX12_four sX12_four rfl (by exact m73) (Nat.le_of_ble_eq_true rfl) ?_
    refine c_X12_four (t1 := t1) (G1 := (stl t1 C L')) m73 mS m74 m99 m100 (by decide) gm_vg gm_cn mA (fun _ _ => ⟨ht1, C, L', ties, hMR, hLI, rfl⟩) (hS _) (hS _) (fun y => absurd p0 (Int.not_le.mpr y)) (fun y E' P' hB' hR' => absurd hR' (by rw [← rf_un gm_vg (by decide) p0 hB hB', hR]; decide)) (fun y b h2 I' A' V k2 a q1 q2 q3 q4 q5 q6 q7 => ?_)
    exact ma_icmp_eq 1128 dL_law_729 rfl (fun _ => lw_1128 hL) (fun cq => absurd (by first | exact congrArg iw (rfl) | exact (congrArg iw (rfl)).symm) cq)
set_option maxHeartbeats 2000000 in
theorem lw_trail {L : Nat} {S : Int → Int} {h : ma_H} {kc ks : Nat} {x5 x6 x7 : Option ma_V} (hL : 5 ≤ L ∧ L < 10) (hS : ∀ i, rg (S i)) (FH : FRC h) (M : FMD h) : ma_J (some (L, S)) mLw 11 kc ks 734 [some (vr 2000000), some (vr 0), some (vr 73), some (vr 111), some (vi 0), x5, x6, x7] [] h 1000000 (fun r _ _ => r = some (vi 1)) := by
  obtain ⟨hb, F⟩ := FH
  have X0 : h 0 = co 11 (xo 0) := (F 0 (by decide)).trans ih0_0
  refine ma_aload_n dL_law_734 rfl ?_
  refine ma_cV [] dL_law_735 wX11_trail lL_109 iX11_trail sX11_trail rfl (by exact X0) (Nat.le_of_ble_eq_true rfl) ?_
  refine c_X11_trail ((F 0 (by decide)).trans ih0_0) (fr_sc F) ((F 1 (by decide)).trans ih0_1) ((F 2 (by decide)).trans ih0_2) ((F 3 (by decide)).trans ih0_3) ((F 4 (by decide)).trans ih0_4) ((F 13 (by decide)).trans ih0_13) ((F 14 (by decide)).trans ih0_14) (by decide) (by decide) rfl ((F 15 (by decide)).trans ih0_15) ((F 16 (by decide)).trans ih0_16) (by decide) (by decide) (by decide) ((F 33 (by decide)).trans ih0_33) ((F 34 (by decide)).trans ih0_34) ((F 35 (by decide)).trans ih0_35) (by decide) z256 ((F 31 (by decide)).trans ih0_31) ((F 32 (by decide)).trans ih0_32) gm_vg gm_cn (fun h' i S' i0 ok lt => absurd lt (by have := ta_ge (fun _ => 0) 0 i.toNat; omega)) (fun h' i e' t' G' fl i0 ok ge fol e0 hfl kk sc a b cc e => ?_) (fun h' i e' t' G' fl i0 ok ge fol e0 => absurd e0 (by have := gm_fol i0 ok fol; omega))
  refine lw_z M (fun k hk => (tq_n (by omega) (by omega)).trans (kk k (by simp; omega))) (fun M' => ?_)
  obtain ⟨m73, mS, m74, m75, m76, m85, m86, m87, m88, m89, m90, m99, m100, m101, m102, m103, m104, m105, m106, m107, m109, m110⟩ := M'
  obtain ⟨Aa, m74, mA⟩ := m74
  refine ma_aload_n dL_law_738 rfl ?_
  refine ma_cV [] dL_law_739 wX12_trail lL_112 iX12_trail sX12_trail rfl (by exact m73) (Nat.le_of_ble_eq_true rfl) ?_
  refine c_X12_trail (T := fun _ => 0) (S := fun _ => 0) (e' := 0) (t' := 1) (G' := GM) m73 mS m74 m76 m99 m100 m101 rfl (by decide) gm_vg gm_cn mA (fun i i0 ok _ => gm_fol2 i0 ok) m75 (fun j a b => by omega) (by decide) (fun i h2 J i0 ok lt => absurd lt (by have := ta_ge (fun _ => 0) 0 i.toNat; omega)) (fun i h2 J fl2 i0' ok' ge' e0' => ?_) (fun i h2 J fl2 B2 V i0' ok' ge' e0' => absurd e0' (by decide))
  intros
  exact ma_icmp_eq 1128 dL_law_742 rfl (fun _ => lw_1128 hL) (fun cq => absurd (by first | exact congrArg iw ((gm_fol i0 ok fol).2) | exact (congrArg iw ((gm_fol i0 ok fol).2)).symm) cq)
set_option maxHeartbeats 2000000 in
theorem lw_tries {L : Nat} {S : Int → Int} {h : ma_H} {kc ks : Nat} {x5 x6 x7 : Option ma_V} (hL : 5 ≤ L ∧ L < 10) (hS : ∀ i, rg (S i)) (FH : FRC h) (M : FMD h) : ma_J (some (L, S)) mLw 11 kc ks 747 [some (vr 2000000), some (vr 0), some (vr 73), some (vr 111), some (vi 0), x5, x6, x7] [] h 1000000 (fun r _ _ => r = some (vi 1)) := by
  obtain ⟨hb, F⟩ := FH
  have X0 : h 0 = co 11 (xo 0) := (F 0 (by decide)).trans ih0_0
  refine ma_aload_n dL_law_747 rfl ?_
  refine ma_cV [] dL_law_748 wX11_tries lL_113 iX11_tries sX11_tries rfl (by exact X0) (Nat.le_of_ble_eq_true rfl) ?_
  refine c_X11_tries ((F 0 (by decide)).trans ih0_0) (fr_sc F) ((F 1 (by decide)).trans ih0_1) ((F 2 (by decide)).trans ih0_2) ((F 5 (by decide)).trans ih0_5) ((F 6 (by decide)).trans ih0_6) ((F 33 (by decide)).trans ih0_33) ((F 34 (by decide)).trans ih0_34) ((F 35 (by decide)).trans ih0_35) (by decide) z256 ((F 31 (by decide)).trans ih0_31) ((F 32 (by decide)).trans ih0_32) gm_vg gm_cn (fun h' i S' i0 ok lt => absurd lt (by have := ta_ge (fun _ => 0) 0 i.toNat; omega)) (fun h' i e' t' G' fl i0 ok ge fol hfl kk sc a b cc e => ?_)
  refine lw_z M (fun k hk => (tq_n (by omega) (by omega)).trans (kk k (by simp; omega))) (fun M' => ?_)
  obtain ⟨m73, mS, m74, m75, m76, m85, m86, m87, m88, m89, m90, m99, m100, m101, m102, m103, m104, m105, m106, m107, m109, m110⟩ := M'
  obtain ⟨Aa, m74, mA⟩ := m74
  refine ma_aload_n dL_law_751 rfl ?_
  refine ma_cV [] dL_law_752 wX12_tries lL_116 iX12_tries sX12_tries rfl (by exact m73) (Nat.le_of_ble_eq_true rfl) ?_
  refine c_X12_tries (T := fun _ => 0) (S := fun _ => 0) (e' := 0) (t' := 1) (G' := GM) (U := fun _ => 0) m73 mS m74 m76 m99 m100 m101 rfl (by decide) gm_vg gm_cn mA (fun i i0 ok _ => gm_fol2 i0 ok) m75 (fun j a b => by omega) (by decide) (fun i h2 J i0 ok lt => absurd lt (by have := ta_ge (fun _ => 0) 0 i.toNat; omega)) (fun i h2 J fl2 B2 i0' ok' ge' => ?_)
  intros
  exact ma_icmp_eq 1128 dL_law_755 rfl (fun _ => lw_1128 hL) (fun cq => absurd (by first | exact congrArg iw ((gm_fol i0 ok fol).1) | exact (congrArg iw ((gm_fol i0 ok fol).1)).symm) cq)
set_option maxHeartbeats 2000000 in
theorem lw_comes {L : Nat} {S : Int → Int} {h : ma_H} {kc ks : Nat} {x5 x6 x7 : Option ma_V} (hL : 5 ≤ L ∧ L < 10) (hS : ∀ i, rg (S i)) (FH : FRC h) (M : FMD h) : ma_J (some (L, S)) mLw 11 kc ks 760 [some (vr 2000000), some (vr 0), some (vr 73), some (vr 111), some (vi 0), x5, x6, x7] [] h 1000000 (fun r _ _ => r = some (vi 1)) := by
  obtain ⟨hb, F⟩ := FH
  have X0 : h 0 = co 11 (xo 0) := (F 0 (by decide)).trans ih0_0
  refine ma_aload_n dL_law_760 rfl ?_
  refine ma_cV [] dL_law_761 wX11_comes lL_117 iX11_comes sX11_comes rfl (by exact X0) (Nat.le_of_ble_eq_true rfl) ?_
  refine ma_Ct_h (fr_bh F) ?_
  refine c_X11_comes0 ((F 0 (by decide)).trans ih0_0) ((F 31 (by decide)).trans ih0_31) ((F 32 (by decide)).trans ih0_32) ((F 59 (by decide)).trans ih0_59) ((F 54 (by decide)).trans ih0_54) ((F 1 (by decide)).trans ih0_1) ((F 2 (by decide)).trans ih0_2) ((F 39 (by decide)).trans ih0_39) (fr_sn F) (fr_sv F) ((F 62 (by decide)).trans ih0_62) ((F 63 (by decide)).trans ih0_63) ((F 64 (by decide)).trans ih0_64) ((F 65 (by decide)).trans ih0_65) ((F 66 (by decide)).trans ih0_66) ((F 67 (by decide)).trans ih0_67) (fun j _ _ => rg_0 j) (fun j _ _ => rg_0 j) ((F 68 (by decide)).trans ih0_68) (fun h' E P G1 hB st kk => ?_)
  refine lw_z M (fun k hk => kk k (by simp; omega)) (fun M' => ?_)
  obtain ⟨m73, mS, m74, m75, m76, m85, m86, m87, m88, m89, m90, m99, m100, m101, m102, m103, m104, m105, m106, m107, m109, m110⟩ := M'
  obtain ⟨Aa, m74, mA⟩ := m74
  refine ma_aload_n dL_law_764 rfl ?_
  refine ma_cV [] dL_law_765 wX12_comes lL_120 iX12_comes sX12_comes rfl (by exact m73) (Nat.le_of_ble_eq_true rfl) ?_
  refine c_X12_comes0 m73 mS m74 mA m76 m100 m102 m103 m104 hB st (fun h2 => ?_)
  exact ma_icmp_eq 1128 dL_law_768 rfl (fun _ => lw_1128 hL) (fun cq => absurd (by first | exact congrArg iw (rfl) | exact (congrArg iw (rfl)).symm) cq)
set_option maxHeartbeats 2000000 in
theorem lw_leads {L : Nat} {S : Int → Int} {h : ma_H} {kc ks : Nat} {x5 x6 x7 : Option ma_V} (hL : 5 ≤ L ∧ L < 10) (hS : ∀ i, rg (S i)) (FH : FRC h) (M : FMD h) : ma_J (some (L, S)) mLw 11 kc ks 773 [some (vr 2000000), some (vr 0), some (vr 73), some (vr 111), some (vi 0), x5, x6, x7] [] h 1000000 (fun r _ _ => r = some (vi 1)) := by
  obtain ⟨hb, F⟩ := FH
  have X0 : h 0 = co 11 (xo 0) := (F 0 (by decide)).trans ih0_0
  refine ma_aload_n dL_law_773 rfl ?_
  refine ma_aload_n dL_law_774 rfl ?_
  refine ma_iload dL_law_775 rfl ?_
  refine ma_iconst dL_law_777 ?_
  refine ma_iadd dL_law_778 ?_
  refine ma_sald dL_law_779 (by omega) (by omega) (by omega) ?_
  refine ma_cV [_] dL_law_780 wX11_leads lL_121 iX11_leads sX11_leads rfl (by exact X0) (Nat.le_of_ble_eq_true rfl) ?_
  refine c_X11_leads0 ((F 0 (by decide)).trans ih0_0) ((F 12 (by decide)).trans ih0_12) (fun _ _ _ => rfl) (hS _) (fun z => ?_) (fun z => ?_)
  · -- outcome
    refine lw_z M (fun k _ => rfl) (fun M' => ?_)
    obtain ⟨m73, mS, m74, m75, m76, m85, m86, m87, m88, m89, m90, m99, m100, m101, m102, m103, m104, m105, m106, m107, m109, m110⟩ := M'
    obtain ⟨Aa, m74, mA⟩ := m74
    refine ma_aload_n dL_law_783 rfl ?_
    refine ma_aload_n dL_law_784 rfl ?_
    refine ma_iload dL_law_785 rfl ?_
    refine ma_iconst dL_law_787 ?_
    refine ma_iadd dL_law_788 ?_
    refine ma_sald dL_law_789 (by omega) (by omega) (by omega) ?_
    refine ma_cV [_] dL_law_790 wX12_leads lL_124 iX12_leads sX12_leads rfl (by exact m73) (Nat.le_of_ble_eq_true rfl) ?_
    refine c_X12_leads0 m73 m106 (fun _ _ _ => rfl) (hS _) (fun y => ?_) (fun y => absurd y z)
    exact ma_icmp_eq 1128 dL_law_793 rfl (fun _ => lw_1128 hL) (fun cq => absurd (by first | exact congrArg iw (rfl) | exact (congrArg iw (rfl)).symm) cq)
  · -- outcome
    refine lw_z M (fun k _ => rfl) (fun M' => ?_)
    obtain ⟨m73, mS, m74, m75, m76, m85, m86, m87, m88, m89, m90, m99, m100, m101, m102, m103, m104, m105, m106, m107, m109, m110⟩ := M'
    obtain ⟨Aa, m74, mA⟩ := m74
    refine ma_aload_n dL_law_783 rfl ?_
    refine ma_aload_n dL_law_784 rfl ?_
    refine ma_iload dL_law_785 rfl ?_
    refine ma_iconst dL_law_787 ?_
    refine ma_iadd dL_law_788 ?_
    refine ma_sald dL_law_789 (by omega) (by omega) (by omega) ?_
    refine ma_cV [_] dL_law_790 wX12_leads lL_124 iX12_leads sX12_leads rfl (by exact m73) (Nat.le_of_ble_eq_true rfl) ?_
    refine c_X12_leads0 m73 m106 (fun _ _ _ => rfl) (hS _) (fun y => absurd z y) (fun y => ?_)
    exact ma_icmp_eq 1128 dL_law_793 rfl (fun _ => lw_1128 hL) (fun cq => absurd (by first | exact congrArg iw (rfl) | exact (congrArg iw (rfl)).symm) cq)
set_option maxHeartbeats 2000000 in
theorem lw_simpler {L : Nat} {S : Int → Int} {h : ma_H} {kc ks : Nat} {x5 x6 x7 : Option ma_V} (hL : 5 ≤ L ∧ L < 10) (hS : ∀ i, rg (S i)) (FH : FRC h) (M : FMD h) : ma_J (some (L, S)) mLw 11 kc ks 798 [some (vr 2000000), some (vr 0), some (vr 73), some (vr 111), some (vi 0), x5, x6, x7] [] h 1000000 (fun r _ _ => r = some (vi 1)) := by
  obtain ⟨hb, F⟩ := FH
  have X0 : h 0 = co 11 (xo 0) := (F 0 (by decide)).trans ih0_0
  refine ma_aload_n dL_law_798 rfl ?_
  refine ma_cV [] dL_law_799 wX11_simpler lL_125 iX11_simpler sX11_simpler rfl (by exact X0) (Nat.le_of_ble_eq_true rfl) ?_
  refine c_X11_simpler ((F 0 (by decide)).trans ih0_0) (fr_sc F) ((F 1 (by decide)).trans ih0_1) ((F 2 (by decide)).trans ih0_2) ((F 3 (by decide)).trans ih0_3) ((F 4 (by decide)).trans ih0_4) ((F 31 (by decide)).trans ih0_31) ((F 32 (by decide)).trans ih0_32) gm_vg gm_cn ((F 13 (by decide)).trans ih0_13) ((F 14 (by decide)).trans ih0_14) (by decide) (by decide) rfl ((F 15 (by decide)).trans ih0_15) ((F 16 (by decide)).trans ih0_16) (by decide) (by decide) (by decide) (fun h' e' t' G' sim e0 kk sc a b => ?_) (fun h' e' t' G' sim e0 => absurd e0 (by have := gm_sim sim; omega))
  refine lw_z M (fun k hk => (tq_n (by omega) (by omega)).trans (kk k (by simp; omega))) (fun M' => ?_)
  obtain ⟨m73, mS, m74, m75, m76, m85, m86, m87, m88, m89, m90, m99, m100, m101, m102, m103, m104, m105, m106, m107, m109, m110⟩ := M'
  obtain ⟨Aa, m74, mA⟩ := m74
  refine ma_aload_n dL_law_802 rfl ?_
  refine ma_cV [] dL_law_803 wX12_simpler lL_128 iX12_simpler sX12_simpler rfl (by exact m73) (Nat.le_of_ble_eq_true rfl) ?_
  refine c_X12_simpler0 m73 mS m74 m76 m100 m107 gm_vg gm_cn mA ((gm_sim sim).2 ▸ sim) (fun h2 => ?_)
  exact ma_icmp_eq 1128 dL_law_806 rfl (fun _ => lw_1128 hL) (fun cq => absurd (by first | exact congrArg iw ((gm_sim sim).1) | exact (congrArg iw ((gm_sim sim).1)).symm) cq)
set_option maxHeartbeats 2000000 in
theorem lw_way {L : Nat} {S : Int → Int} {h : ma_H} {kc ks : Nat} {x5 x6 x7 : Option ma_V} (hL : 5 ≤ L ∧ L < 10) (hS : ∀ i, rg (S i)) (FH : FRC h) (M : FMD h) : ma_J (some (L, S)) mLw 11 kc ks 811 [some (vr 2000000), some (vr 0), some (vr 73), some (vr 111), some (vi 0), x5, x6, x7] [] h 1000000 (fun r _ _ => r = some (vi 1)) := by
  obtain ⟨hb, F⟩ := FH
  have X0 : h 0 = co 11 (xo 0) := (F 0 (by decide)).trans ih0_0
  refine ma_aload_n dL_law_811 rfl ?_
  refine ma_aload_n dL_law_812 rfl ?_
  refine ma_iload dL_law_813 rfl ?_
  refine ma_iconst dL_law_815 ?_
  refine ma_iadd dL_law_816 ?_
  refine ma_sald dL_law_817 (by omega) (by omega) (by omega) ?_
  refine ma_aload_n dL_law_818 rfl ?_
  refine ma_iload dL_law_819 rfl ?_
  refine ma_iconst dL_law_821 ?_
  refine ma_iadd dL_law_822 ?_
  refine ma_sald dL_law_823 (by omega) (by omega) (by omega) ?_
  refine ma_aload_n dL_law_824 rfl ?_
  refine ma_iload dL_law_825 rfl ?_
  refine ma_iconst dL_law_827 ?_
  refine ma_iadd dL_law_828 ?_
  refine ma_sald dL_law_829 (by omega) (by omega) (by omega) ?_
  refine ma_cV [_, _, _] dL_law_830 wX11_way lL_129 iX11_way sX11_way rfl (by exact X0) (Nat.le_of_ble_eq_true rfl) ?_
  refine c_X11_way0 ((F 0 (by decide)).trans ih0_0) ((F 12 (by decide)).trans ih0_12) (fun _ _ _ => rfl) (hS _) (hS _) (hS _) (fun z => ?_) (fun z => ?_)
  · -- outcome
    refine lw_z M (fun k _ => rfl) (fun M' => ?_)
    obtain ⟨m73, mS, m74, m75, m76, m85, m86, m87, m88, m89, m90, m99, m100, m101, m102, m103, m104, m105, m106, m107, m109, m110⟩ := M'
    obtain ⟨Aa, m74, mA⟩ := m74
    refine ma_aload_n dL_law_833 rfl ?_
    refine ma_aload_n dL_law_834 rfl ?_
    refine ma_iload dL_law_835 rfl ?_
    refine ma_iconst dL_law_837 ?_
    refine ma_iadd dL_law_838 ?_
    refine ma_sald dL_law_839 (by omega) (by omega) (by omega) ?_
    refine ma_aload_n dL_law_840 rfl ?_
    refine ma_iload dL_law_841 rfl ?_
    refine ma_iconst dL_law_843 ?_
    refine ma_iadd dL_law_844 ?_
    refine ma_sald dL_law_845 (by omega) (by omega) (by omega) ?_
    refine ma_aload_n dL_law_846 rfl ?_
    refine ma_iload dL_law_847 rfl ?_
    refine ma_iconst dL_law_849 ?_
    refine ma_iadd dL_law_850 ?_
    refine ma_sald dL_law_851 (by omega) (by omega) (by omega) ?_
    refine ma_cV [_, _, _] dL_law_852 wX12_way lL_132 iX12_way sX12_way rfl (by exact m73) (Nat.le_of_ble_eq_true rfl) ?_
    refine c_X12_way0 m73 m106 (fun _ _ _ => rfl) (hS _) (hS _) (hS _) (fun y => ?_) (fun y => absurd y z)
    exact ma_icmp_eq 1128 dL_law_855 rfl (fun _ => lw_1128 hL) (fun cq => absurd (by first | exact congrArg iw (rfl) | exact (congrArg iw (rfl)).symm) cq)
  · -- outcome
    refine lw_z M (fun k _ => rfl) (fun M' => ?_)
    obtain ⟨m73, mS, m74, m75, m76, m85, m86, m87, m88, m89, m90, m99, m100, m101, m102, m103, m104, m105, m106, m107, m109, m110⟩ := M'
    obtain ⟨Aa, m74, mA⟩ := m74
    refine ma_aload_n dL_law_833 rfl ?_
    refine ma_aload_n dL_law_834 rfl ?_
    refine ma_iload dL_law_835 rfl ?_
    refine ma_iconst dL_law_837 ?_
    refine ma_iadd dL_law_838 ?_
    refine ma_sald dL_law_839 (by omega) (by omega) (by omega) ?_
    refine ma_aload_n dL_law_840 rfl ?_
    refine ma_iload dL_law_841 rfl ?_
    refine ma_iconst dL_law_843 ?_
    refine ma_iadd dL_law_844 ?_
    refine ma_sald dL_law_845 (by omega) (by omega) (by omega) ?_
    refine ma_aload_n dL_law_846 rfl ?_
    refine ma_iload dL_law_847 rfl ?_
    refine ma_iconst dL_law_849 ?_
    refine ma_iadd dL_law_850 ?_
    refine ma_sald dL_law_851 (by omega) (by omega) (by omega) ?_
    refine ma_cV [_, _, _] dL_law_852 wX12_way lL_132 iX12_way sX12_way rfl (by exact m73) (Nat.le_of_ble_eq_true rfl) ?_
    refine c_X12_way0 m73 m106 (fun _ _ _ => rfl) (hS _) (hS _) (hS _) (fun y => absurd z y) (fun y => ?_)
    exact ma_icmp_eq 1128 dL_law_855 rfl (fun _ => lw_1128 hL) (fun cq => absurd (by first | exact congrArg iw (rfl) | exact (congrArg iw (rfl)).symm) cq)
set_option maxHeartbeats 2000000 in
theorem lw_drawn {L : Nat} {S : Int → Int} {h : ma_H} {kc ks : Nat} {x5 x6 x7 : Option ma_V} (hL : 5 ≤ L ∧ L < 10) (hS : ∀ i, rg (S i)) (FH : FRC h) (M : FMD h) : ma_J (some (L, S)) mLw 11 kc ks 860 [some (vr 2000000), some (vr 0), some (vr 73), some (vr 111), some (vi 0), x5, x6, x7] [] h 1000000 (fun r _ _ => r = some (vi 1)) := by
  obtain ⟨hb, F⟩ := FH
  have X0 : h 0 = co 11 (xo 0) := (F 0 (by decide)).trans ih0_0
  refine ma_aload_n dL_law_860 rfl ?_
  refine ma_aload_n dL_law_861 rfl ?_
  refine ma_iload dL_law_862 rfl ?_
  refine ma_iconst dL_law_864 ?_
  refine ma_iadd dL_law_865 ?_
  refine ma_sald dL_law_866 (by omega) (by omega) (by omega) ?_
  refine ma_aload_n dL_law_867 rfl ?_
  refine ma_iload dL_law_868 rfl ?_
  refine ma_iconst dL_law_870 ?_
  refine ma_iadd dL_law_871 ?_
  refine ma_sald dL_law_872 (by omega) (by omega) (by omega) ?_
  refine ma_cV [_, _] dL_law_873 wX11_drawn lL_133 iX11_drawn sX11_drawn rfl (by exact X0) (Nat.le_of_ble_eq_true rfl) ?_
  refine c_X11_drawn ((F 0 (by decide)).trans ih0_0) (fr_sc F) ((F 1 (by decide)).trans ih0_1) ((F 2 (by decide)).trans ih0_2) ((F 5 (by decide)).trans ih0_5) ((F 6 (by decide)).trans ih0_6) ((F 31 (by decide)).trans ih0_31) ((F 32 (by decide)).trans ih0_32) gm_vg gm_cn (hS _) (hS _) (fun z => ?_) (fun z h' t' G' e' s' E P fl dr hB hfl kk sc a b cc e f => ?_)
  · -- outcome
    refine lw_z M (fun k _ => rfl) (fun M' => ?_)
    obtain ⟨m73, mS, m74, m75, m76, m85, m86, m87, m88, m89, m90, m99, m100, m101, m102, m103, m104, m105, m106, m107, m109, m110⟩ := M'
    obtain ⟨Aa, m74, mA⟩ := m74
    refine ma_aload_n dL_law_876 rfl ?_
    refine ma_aload_n dL_law_877 rfl ?_
    refine ma_iload dL_law_878 rfl ?_
    refine ma_iconst dL_law_880 ?_
    refine ma_iadd dL_law_881 ?_
    refine ma_sald dL_law_882 (by omega) (by omega) (by omega) ?_
    refine ma_aload_n dL_law_883 rfl ?_
    refine ma_iload dL_law_884 rfl ?_
    refine ma_iconst dL_law_886 ?_
    refine ma_iadd dL_law_887 ?_
    refine ma_sald dL_law_888 (by omega) (by omega) (by omega) ?_
    refine ma_cV [_, _] dL_law_889 wX12_drawn lL_136 iX12_drawn sX12_drawn rfl (by exact m73) (Nat.le_of_ble_eq_true rfl) ?_
    refine c_X12_drawn (t' := 0) (G' := GM) (e' := 0) m73 mS m74 mA m107 m100 m88 m76 gm_vg gm_cn (hS _) (hS _) (fun y => absurd y z) (fun y => ?_) (fun y => absurd y z)
    exact ma_icmp_eq 1128 dL_law_892 rfl (fun _ => lw_1128 hL) (fun cq => absurd (by first | exact congrArg iw (rfl) | exact (congrArg iw (rfl)).symm) cq)
  · -- outcome
    refine lw_z M (fun k hk => kk k (by simp; omega)) (fun M' => ?_)
    obtain ⟨m73, mS, m74, m75, m76, m85, m86, m87, m88, m89, m90, m99, m100, m101, m102, m103, m104, m105, m106, m107, m109, m110⟩ := M'
    obtain ⟨Aa, m74, mA⟩ := m74
    refine ma_aload_n dL_law_876 rfl ?_
    refine ma_aload_n dL_law_877 rfl ?_
    refine ma_iload dL_law_878 rfl ?_
    refine ma_iconst dL_law_880 ?_
    refine ma_iadd dL_law_881 ?_
    refine ma_sald dL_law_882 (by omega) (by omega) (by omega) ?_
    refine ma_aload_n dL_law_883 rfl ?_
    refine ma_iload dL_law_884 rfl ?_
    refine ma_iconst dL_law_886 ?_
    refine ma_iadd dL_law_887 ?_
    refine ma_sald dL_law_888 (by omega) (by omega) (by omega) ?_
    refine ma_cV [_, _] dL_law_889 wX12_drawn lL_136 iX12_drawn sX12_drawn rfl (by exact m73) (Nat.le_of_ble_eq_true rfl) ?_
    refine c_X12_drawn m73 mS m74 mA m107 m100 m88 m76 gm_vg gm_cn (hS _) (hS _) (fun _ => dr) (fun y => absurd z y) (fun y => ?_)
    intros
    exact ma_icmp_eq 1128 dL_law_892 rfl (fun _ => lw_1128 hL) (fun cq => absurd (by first | exact congrArg iw (rfl) | exact (congrArg iw (rfl)).symm) cq)
set_option maxHeartbeats 2000000 in
theorem lw_undo {L : Nat} {S : Int → Int} {h : ma_H} {kc ks : Nat} {x5 x6 x7 : Option ma_V} (hL : 5 ≤ L ∧ L < 10) (hS : ∀ i, rg (S i)) (FH : FRC h) (M : FMD h) : ma_J (some (L, S)) mLw 11 kc ks 897 [some (vr 2000000), some (vr 0), some (vr 73), some (vr 111), some (vi 0), x5, x6, x7] [] h 1000000 (fun r _ _ => r = some (vi 1)) := by
  obtain ⟨hb, F⟩ := FH
  have X0 : h 0 = co 11 (xo 0) := (F 0 (by decide)).trans ih0_0
  refine ma_aload_n dL_law_897 rfl ?_
  refine ma_cV [] dL_law_898 wX11_undo lL_137 iX11_undo sX11_undo rfl (by exact X0) (Nat.le_of_ble_eq_true rfl) ?_
  refine c_X11_undo ((F 0 (by decide)).trans ih0_0) ((F 1 (by decide)).trans ih0_1) ((F 2 (by decide)).trans ih0_2) ((F 13 (by decide)).trans ih0_13) ((F 14 (by decide)).trans ih0_14) (by decide) (by decide) rfl ((F 29 (by decide)).trans ih0_29) ((F 30 (by decide)).trans ih0_30) (by decide) (by decide) (fun z => ?_) (fun z => absurd z (by decide))
  refine lw_z M (fun k _ => rfl) (fun M' => ?_)
  obtain ⟨m73, mS, m74, m75, m76, m85, m86, m87, m88, m89, m90, m99, m100, m101, m102, m103, m104, m105, m106, m107, m109, m110⟩ := M'
  obtain ⟨Aa, m74, mA⟩ := m74
  refine ma_aload_n dL_law_901 rfl ?_
  refine ma_cV [] dL_law_902 wX12_undo lL_140 iX12_undo sX12_undo rfl (by exact m73) (Nat.le_of_ble_eq_true rfl) ?_
  refine c_X12_undo m73 m74 m99 rfl (by decide) (fun y => ?_) (fun y => absurd y (by decide))
  exact ma_icmp_eq 1128 dL_law_905 rfl (fun _ => lw_1128 hL) (fun cq => absurd (by first | exact congrArg iw (rfl) | exact (congrArg iw (rfl)).symm) cq)
set_option maxHeartbeats 2000000 in
theorem lw_heard {L : Nat} {S : Int → Int} {h : ma_H} {kc ks : Nat} {x5 x6 x7 : Option ma_V} (hL : 5 ≤ L ∧ L < 10) (hS : ∀ i, rg (S i)) (FH : FRC h) (M : FMD h) : ma_J (some (L, S)) mLw 11 kc ks 910 [some (vr 2000000), some (vr 0), some (vr 73), some (vr 111), some (vi 0), x5, x6, x7] [] h 1000000 (fun r _ _ => r = some (vi 1)) := by
  obtain ⟨hb, F⟩ := FH
  have X0 : h 0 = co 11 (xo 0) := (F 0 (by decide)).trans ih0_0
  refine ma_aload_n dL_law_910 rfl ?_
  refine ma_aload_n dL_law_911 rfl ?_
  refine ma_iload dL_law_912 rfl ?_
  refine ma_iconst dL_law_914 ?_
  refine ma_iadd dL_law_915 ?_
  refine ma_sald dL_law_916 (by omega) (by omega) (by omega) ?_
  refine ma_aload_n dL_law_917 rfl ?_
  refine ma_iload dL_law_918 rfl ?_
  refine ma_iconst dL_law_920 ?_
  refine ma_iadd dL_law_921 ?_
  refine ma_sald dL_law_922 (by omega) (by omega) (by omega) ?_
  refine ma_cV [_, _] dL_law_923 wX11_heard lL_141 iX11_heard sX11_heard rfl (by exact X0) (Nat.le_of_ble_eq_true rfl) ?_
  refine c_X11_heard ((F 0 (by decide)).trans ih0_0) ((F 36 (by decide)).trans ih0_36) ((F 37 (by decide)).trans ih0_37) ((F 38 (by decide)).trans ih0_38) (by decide) (hS _) (hS _) (fun z => ?_) (fun z => ?_)
  · -- outcome
    refine lw_z M (fun k _ => rfl) (fun M' => ?_)
    obtain ⟨m73, mS, m74, m75, m76, m85, m86, m87, m88, m89, m90, m99, m100, m101, m102, m103, m104, m105, m106, m107, m109, m110⟩ := M'
    obtain ⟨Aa, m74, mA⟩ := m74
    refine ma_aload_n dL_law_926 rfl ?_
    refine ma_aload_n dL_law_927 rfl ?_
    refine ma_iload dL_law_928 rfl ?_
    refine ma_iconst dL_law_930 ?_
    refine ma_iadd dL_law_931 ?_
    refine ma_sald dL_law_932 (by omega) (by omega) (by omega) ?_
    refine ma_aload_n dL_law_933 rfl ?_
    refine ma_iload dL_law_934 rfl ?_
    refine ma_iconst dL_law_936 ?_
    refine ma_iadd dL_law_937 ?_
    refine ma_sald dL_law_938 (by omega) (by omega) (by omega) ?_
    refine ma_cV [_, _] dL_law_939 wX12_heard lL_144 iX12_heard sX12_heard rfl (by exact m73) (Nat.le_of_ble_eq_true rfl) ?_
    refine c_X12_heard m73 m109 m110 rfl (by decide) (hS _) (hS _) (fun y => ?_) (fun y => absurd y z)
    exact ma_icmp_eq 1128 dL_law_942 rfl (fun _ => lw_1128 hL) (fun cq => absurd (by first | exact congrArg iw (rfl) | exact (congrArg iw (rfl)).symm) cq)
  · -- outcome
    refine lw_z M (fun k hk => by rw [ma_up_n (by omega), ma_up_n (by omega), ma_up_n (by omega)]) (fun M' => ?_)
    obtain ⟨m73, mS, m74, m75, m76, m85, m86, m87, m88, m89, m90, m99, m100, m101, m102, m103, m104, m105, m106, m107, m109, m110⟩ := M'
    obtain ⟨Aa, m74, mA⟩ := m74
    refine ma_aload_n dL_law_926 rfl ?_
    refine ma_aload_n dL_law_927 rfl ?_
    refine ma_iload dL_law_928 rfl ?_
    refine ma_iconst dL_law_930 ?_
    refine ma_iadd dL_law_931 ?_
    refine ma_sald dL_law_932 (by omega) (by omega) (by omega) ?_
    refine ma_aload_n dL_law_933 rfl ?_
    refine ma_iload dL_law_934 rfl ?_
    refine ma_iconst dL_law_936 ?_
    refine ma_iadd dL_law_937 ?_
    refine ma_sald dL_law_938 (by omega) (by omega) (by omega) ?_
    refine ma_cV [_, _] dL_law_939 wX12_heard lL_144 iX12_heard sX12_heard rfl (by exact m73) (Nat.le_of_ble_eq_true rfl) ?_
    refine c_X12_heard m73 m109 m110 rfl (by decide) (hS _) (hS _) (fun y => absurd z y) (fun y => ?_)
    exact ma_icmp_eq 1128 dL_law_942 rfl (fun _ => lw_1128 hL) (fun cq => absurd (by first | exact congrArg iw (rfl) | exact (congrArg iw (rfl)).symm) cq)
set_option maxHeartbeats 2000000 in
theorem lw_forget {L : Nat} {S : Int → Int} {h : ma_H} {kc ks : Nat} {x5 x6 x7 : Option ma_V} (hL : 5 ≤ L ∧ L < 10) (hS : ∀ i, rg (S i)) (FH : FRC h) (M : FMD h) : ma_J (some (L, S)) mLw 11 kc ks 947 [some (vr 2000000), some (vr 0), some (vr 73), some (vr 111), some (vi 0), x5, x6, x7] [] h 1000000 (fun r _ _ => r = some (vi 1)) := by
  obtain ⟨hb, F⟩ := FH
  have X0 : h 0 = co 11 (xo 0) := (F 0 (by decide)).trans ih0_0
  refine ma_aload_n dL_law_947 rfl ?_
  refine ma_cV [] dL_law_948 wX11_forget lL_145 iX11_forget sX11_forget rfl (by exact X0) (Nat.le_of_ble_eq_true rfl) ?_
  refine c_X11_forget ((F 0 (by decide)).trans ih0_0) ((F 36 (by decide)).trans ih0_36) ?_
  refine lw_z M (fun k hk => by rw [ma_up_n (by omega)]) (fun M' => ?_)
  obtain ⟨m73, mS, m74, m75, m76, m85, m86, m87, m88, m89, m90, m99, m100, m101, m102, m103, m104, m105, m106, m107, m109, m110⟩ := M'
  obtain ⟨Aa, m74, mA⟩ := m74
  refine ma_aload_n dL_law_951 rfl ?_
  refine ma_cV [] dL_law_952 wX12_forget lL_148 iX12_forget sX12_forget rfl (by exact m73) (Nat.le_of_ble_eq_true rfl) ?_
  refine c_X12_forget m73 ?_
  exact ma_icmp_eq 1128 dL_law_955 rfl (fun _ => lw_1128 hL) (fun cq => absurd (by first | exact congrArg iw (rfl) | exact (congrArg iw (rfl)).symm) cq)
set_option maxHeartbeats 2000000 in
theorem lw_fits {L : Nat} {S : Int → Int} {h : ma_H} {kc ks : Nat} {x5 x6 x7 : Option ma_V} (hL : 5 ≤ L ∧ L < 10) (hS : ∀ i, rg (S i)) (FH : FRC h) (M : FMD h) : ma_J (some (L, S)) mLw 11 kc ks 960 [some (vr 2000000), some (vr 0), some (vr 73), some (vr 111), some (vi 0), x5, x6, x7] [] h 1000000 (fun r _ _ => r = some (vi 1)) := by
  obtain ⟨hb, F⟩ := FH
  have X0 : h 0 = co 11 (xo 0) := (F 0 (by decide)).trans ih0_0
  refine ma_aload_n dL_law_960 rfl ?_
  refine ma_cV [] dL_law_961 wX11_fits lL_149 iX11_fits sX11_fits rfl (by exact X0) (Nat.le_of_ble_eq_true rfl) ?_
  refine ma_Ct_h (fr_bt F) ?_
  refine c_X11_fits ((F 0 (by decide)).trans ih0_0) ((F 1 (by decide)).trans ih0_1) ((F 2 (by decide)).trans ih0_2) gm_vg ((F 36 (by decide)).trans ih0_36) ((F 37 (by decide)).trans ih0_37) ((F 38 (by decide)).trans ih0_38) (by decide) (fun i a b => by omega) (fun E P q nn s T hB hFR => ?_)
  refine lw_z M (fun k hk => (bh_n (by omega)).trans (tq_n (by omega) (by omega))) (fun M' => ?_)
  obtain ⟨m73, mS, m74, m75, m76, m85, m86, m87, m88, m89, m90, m99, m100, m101, m102, m103, m104, m105, m106, m107, m109, m110⟩ := M'
  obtain ⟨Aa, m74, mA⟩ := m74
  refine ma_aload_n dL_law_964 rfl ?_
  refine ma_cV [] dL_law_965 wX12_fits lL_152 iX12_fits sX12_fits rfl (by exact m73) (Nat.le_of_ble_eq_true rfl) ?_
  refine ma_Ct_h (rh_of m73 m76 m86 m87 m88) ?_
  refine c_X12_fits m74 gm_vg mA m109 m110 rfl (by decide) (fun i a b => by omega) (fun E' P' F' R' fi n nn' s' T' hB' hF hFR' => ?_)
  exact ma_icmp_eq 1128 dL_law_968 rfl (fun _ => lw_1128 hL) (fun cq => absurd (by first | exact congrArg iw (gm_fits hB hB'.1 hFR hF hFR' (fun i j a b => by omega)) | exact (congrArg iw (gm_fits hB hB'.1 hFR hF hFR' (fun i j a b => by omega))).symm) cq)
set_option maxHeartbeats 2000000 in
theorem lw_keep {L : Nat} {S : Int → Int} {h : ma_H} {kc ks : Nat} {x5 x6 x7 : Option ma_V} (hL : 5 ≤ L ∧ L < 10) (hS : ∀ i, rg (S i)) (FH : FRC h) (M : FMD h) : ma_J (some (L, S)) mLw 11 kc ks 973 [some (vr 2000000), some (vr 0), some (vr 73), some (vr 111), some (vi 0), x5, x6, x7] [] h 1000000 (fun r _ _ => r = some (vi 1)) := by
  obtain ⟨hb, F⟩ := FH
  have X0 : h 0 = co 11 (xo 0) := (F 0 (by decide)).trans ih0_0
  refine ma_aload_n dL_law_973 rfl ?_
  refine ma_aload_n dL_law_974 rfl ?_
  refine ma_iload dL_law_975 rfl ?_
  refine ma_iconst dL_law_977 ?_
  refine ma_iadd dL_law_978 ?_
  refine ma_sald dL_law_979 (by omega) (by omega) (by omega) ?_
  refine ma_cV [_] dL_law_980 wX11_keep lL_153 iX11_keep sX11_keep rfl (by exact X0) (Nat.le_of_ble_eq_true rfl) ?_
  refine c_X11_keep ((F 0 (by decide)).trans ih0_0) ((F 1 (by decide)).trans ih0_1) ((F 2 (by decide)).trans ih0_2) ((F 7 (by decide)).trans ih0_7) ((F 12 (by decide)).trans ih0_12) ((F 8 (by decide)).trans ih0_8) ((F 9 (by decide)).trans ih0_9) ((F 10 (by decide)).trans ih0_10) ((F 11 (by decide)).trans ih0_11) (hS _) (fun z => ?_) (fun z => ?_) (fun z => ?_)
  · -- outcome
    refine lw_z M (fun k _ => rfl) (fun M' => ?_)
    obtain ⟨m73, mS, m74, m75, m76, m85, m86, m87, m88, m89, m90, m99, m100, m101, m102, m103, m104, m105, m106, m107, m109, m110⟩ := M'
    obtain ⟨Aa, m74, mA⟩ := m74
    refine ma_aload_n dL_law_983 rfl ?_
    refine ma_aload_n dL_law_984 rfl ?_
    refine ma_iload dL_law_985 rfl ?_
    refine ma_iconst dL_law_987 ?_
    refine ma_iadd dL_law_988 ?_
    refine ma_sald dL_law_989 (by omega) (by omega) (by omega) ?_
    refine ma_cV [_] dL_law_990 wX12_keep lL_156 iX12_keep sX12_keep rfl (by exact m73) (Nat.le_of_ble_eq_true rfl) ?_
    refine c_X12_keep m73 m74 m105 m106 (hS _) (fun y => ?_) (fun y => absurd y (by omega))
    exact ma_icmp_eq 1128 dL_law_993 rfl (fun _ => lw_1128 hL) (fun cq => absurd (by first | exact congrArg iw (rfl) | exact (congrArg iw (rfl)).symm) cq)
  · -- outcome
    refine lw_z M (fun k hk => by rw [ma_up_n (by omega), ma_up_n (by omega), ma_up_n (by omega)]) (fun M' => ?_)
    obtain ⟨m73, mS, m74, m75, m76, m85, m86, m87, m88, m89, m90, m99, m100, m101, m102, m103, m104, m105, m106, m107, m109, m110⟩ := M'
    obtain ⟨Aa, m74, mA⟩ := m74
    refine ma_aload_n dL_law_983 rfl ?_
    refine ma_aload_n dL_law_984 rfl ?_
    refine ma_iload dL_law_985 rfl ?_
    refine ma_iconst dL_law_987 ?_
    refine ma_iadd dL_law_988 ?_
    refine ma_sald dL_law_989 (by omega) (by omega) (by omega) ?_
    refine ma_cV [_] dL_law_990 wX12_keep lL_156 iX12_keep sX12_keep rfl (by exact m73) (Nat.le_of_ble_eq_true rfl) ?_
    refine c_X12_keep m73 m74 m105 m106 (hS _) (fun y => absurd (show _ ∧ _ from ⟨by omega, by omega⟩) y) (fun y V v1 v2 => ?_)
    exact ma_icmp_eq 1128 dL_law_993 rfl (fun _ => lw_1128 hL) (fun cq => absurd (by first | exact congrArg iw (rfl) | exact (congrArg iw (rfl)).symm) cq)
  · -- outcome
    refine lw_z M (fun k hk => by rw [ma_up_n (by omega), ma_up_n (by omega), ma_up_n (by omega)]) (fun M' => ?_)
    obtain ⟨m73, mS, m74, m75, m76, m85, m86, m87, m88, m89, m90, m99, m100, m101, m102, m103, m104, m105, m106, m107, m109, m110⟩ := M'
    obtain ⟨Aa, m74, mA⟩ := m74
    refine ma_aload_n dL_law_983 rfl ?_
    refine ma_aload_n dL_law_984 rfl ?_
    refine ma_iload dL_law_985 rfl ?_
    refine ma_iconst dL_law_987 ?_
    refine ma_iadd dL_law_988 ?_
    refine ma_sald dL_law_989 (by omega) (by omega) (by omega) ?_
    refine ma_cV [_] dL_law_990 wX12_keep lL_156 iX12_keep sX12_keep rfl (by exact m73) (Nat.le_of_ble_eq_true rfl) ?_
    refine c_X12_keep m73 m74 m105 m106 (hS _) (fun y => absurd (show _ ∧ _ from ⟨by omega, by omega⟩) y) (fun y V v1 v2 => ?_)
    exact ma_icmp_eq 1128 dL_law_993 rfl (fun _ => lw_1128 hL) (fun cq => absurd (by first | exact congrArg iw (rfl) | exact (congrArg iw (rfl)).symm) cq)
set_option maxHeartbeats 2000000 in
theorem lw_again {L : Nat} {S : Int → Int} {h : ma_H} {kc ks : Nat} {x5 x6 x7 : Option ma_V} (hL : 5 ≤ L ∧ L < 10) (hS : ∀ i, rg (S i)) (FH : FRC h) (M : FMD h) : ma_J (some (L, S)) mLw 11 kc ks 998 [some (vr 2000000), some (vr 0), some (vr 73), some (vr 111), some (vi 0), x5, x6, x7] [] h 1000000 (fun r _ _ => r = some (vi 1)) := by
  obtain ⟨hb, F⟩ := FH
  have X0 : h 0 = co 11 (xo 0) := (F 0 (by decide)).trans ih0_0
  refine ma_aload_n dL_law_998 rfl ?_
  refine ma_aload_n dL_law_999 rfl ?_
  refine ma_iload dL_law_1000 rfl ?_
  refine ma_iconst dL_law_1002 ?_
  refine ma_iadd dL_law_1003 ?_
  refine ma_sald dL_law_1004 (by omega) (by omega) (by omega) ?_
  refine ma_cV [_] dL_law_1005 wX11_again lL_157 iX11_again sX11_again rfl (by exact X0) (Nat.le_of_ble_eq_true rfl) ?_
  refine c_X11_again ((F 0 (by decide)).trans ih0_0) ((F 1 (by decide)).trans ih0_1) ((F 2 (by decide)).trans ih0_2) ((F 7 (by decide)).trans ih0_7) ((F 12 (by decide)).trans ih0_12) ((F 8 (by decide)).trans ih0_8) ((F 9 (by decide)).trans ih0_9) ((F 10 (by decide)).trans ih0_10) ((F 11 (by decide)).trans ih0_11) (hS _) ((F 13 (by decide)).trans ih0_13) (Or.inl rfl) (Or.inl rfl) (fun z => ?_) (fun _ z => absurd rfl z) (fun _ z => absurd rfl z)
  refine lw_z M (fun k _ => rfl) (fun M' => ?_)
  obtain ⟨m73, mS, m74, m75, m76, m85, m86, m87, m88, m89, m90, m99, m100, m101, m102, m103, m104, m105, m106, m107, m109, m110⟩ := M'
  obtain ⟨Aa, m74, mA⟩ := m74
  refine ma_aload_n dL_law_1008 rfl ?_
  refine ma_aload_n dL_law_1009 rfl ?_
  refine ma_iload dL_law_1010 rfl ?_
  refine ma_iconst dL_law_1012 ?_
  refine ma_iadd dL_law_1013 ?_
  refine ma_sald dL_law_1014 (by omega) (by omega) (by omega) ?_
  refine ma_cV [_] dL_law_1015 wX12_again lL_160 iX12_again sX12_again rfl (by exact m73) (Nat.le_of_ble_eq_true rfl) ?_
  refine c_X12_again m73 m74 m105 m106 (fun _ _ _ => Or.inl rfl) (hS _) (fun y => ?_) (fun _ y => absurd rfl y)
  exact ma_icmp_eq 1128 dL_law_1018 rfl (fun _ => lw_1128 hL) (fun cq => absurd (by first | exact congrArg iw (rfl) | exact (congrArg iw (rfl)).symm) cq)
set_option maxHeartbeats 2000000 in
theorem lw_same {L : Nat} {S : Int → Int} {h : ma_H} {kc ks : Nat} {x5 x6 x7 : Option ma_V} (hL : 5 ≤ L ∧ L < 10) (hS : ∀ i, rg (S i)) (FH : FRC h) (M : FMD h) : ma_J (some (L, S)) mLw 11 kc ks 1023 [some (vr 2000000), some (vr 0), some (vr 73), some (vr 111), some (vi 0), x5, x6, x7] [] h 1000000 (fun r _ _ => r = some (vi 1)) := by
  obtain ⟨hb, F⟩ := FH
  have X0 : h 0 = co 11 (xo 0) := (F 0 (by decide)).trans ih0_0
  refine ma_aload_n dL_law_1023 rfl ?_
  refine ma_aload_n dL_law_1024 rfl ?_
  refine ma_iload dL_law_1025 rfl ?_
  refine ma_iconst dL_law_1027 ?_
  refine ma_iadd dL_law_1028 ?_
  refine ma_sald dL_law_1029 (by omega) (by omega) (by omega) ?_
  refine ma_cV [_] dL_law_1030 wX11_same lL_161 iX11_same sX11_same rfl (by exact X0) (Nat.le_of_ble_eq_true rfl) ?_
  refine c_X11_same ((F 0 (by decide)).trans ih0_0) ((F 1 (by decide)).trans ih0_1) ((F 2 (by decide)).trans ih0_2) ((F 7 (by decide)).trans ih0_7) ((F 12 (by decide)).trans ih0_12) ((F 8 (by decide)).trans ih0_8) ((F 9 (by decide)).trans ih0_9) ((F 10 (by decide)).trans ih0_10) ((F 11 (by decide)).trans ih0_11) (hS _) ((F 31 (by decide)).trans ih0_31) ((F 32 (by decide)).trans ih0_32) (Or.inl rfl) (Or.inl rfl) (by decide) (by decide) (by decide) (fun j _ _ => rg_m j) (fun j _ _ => rg_m j) (fun j _ _ => rg_m j) (fun z => ?_) (fun z _ => ?_) (fun _ z => absurd rfl z) (fun _ z => absurd rfl z)
  · -- outcome
    refine lw_z M (fun k _ => rfl) (fun M' => ?_)
    obtain ⟨m73, mS, m74, m75, m76, m85, m86, m87, m88, m89, m90, m99, m100, m101, m102, m103, m104, m105, m106, m107, m109, m110⟩ := M'
    obtain ⟨Aa, m74, mA⟩ := m74
    refine ma_aload_n dL_law_1033 rfl ?_
    refine ma_aload_n dL_law_1034 rfl ?_
    refine ma_iload dL_law_1035 rfl ?_
    refine ma_iconst dL_law_1037 ?_
    refine ma_iadd dL_law_1038 ?_
    refine ma_sald dL_law_1039 (by omega) (by omega) (by omega) ?_
    refine ma_cV [_] dL_law_1040 wX12_same lL_164 iX12_same sX12_same rfl (by exact m73) (Nat.le_of_ble_eq_true rfl) ?_
    refine ma_Ct_h (rh_of m73 m76 m86 m87 m88) ?_
    refine c_X12_same m74 m105 m106 (fun _ _ _ => Or.inl rfl) (gm_rA mA) (fun j _ _ => rg_0 j) (hS _) (fun y => ?_) (fun y _ => absurd y (by omega)) (fun _ y => absurd rfl y)
    exact ma_icmp_eq 1128 dL_law_1043 rfl (fun _ => lw_1128 hL) (fun cq => absurd (by first | exact congrArg iw (rfl) | exact (congrArg iw (rfl)).symm) cq)
  · -- outcome
    refine lw_z M (fun k _ => rfl) (fun M' => ?_)
    obtain ⟨m73, mS, m74, m75, m76, m85, m86, m87, m88, m89, m90, m99, m100, m101, m102, m103, m104, m105, m106, m107, m109, m110⟩ := M'
    obtain ⟨Aa, m74, mA⟩ := m74
    refine ma_aload_n dL_law_1033 rfl ?_
    refine ma_aload_n dL_law_1034 rfl ?_
    refine ma_iload dL_law_1035 rfl ?_
    refine ma_iconst dL_law_1037 ?_
    refine ma_iadd dL_law_1038 ?_
    refine ma_sald dL_law_1039 (by omega) (by omega) (by omega) ?_
    refine ma_cV [_] dL_law_1040 wX12_same lL_164 iX12_same sX12_same rfl (by exact m73) (Nat.le_of_ble_eq_true rfl) ?_
    refine ma_Ct_h (rh_of m73 m76 m86 m87 m88) ?_
    refine c_X12_same m74 m105 m106 (fun _ _ _ => Or.inl rfl) (gm_rA mA) (fun j _ _ => rg_0 j) (hS _) (fun y => absurd (show _ ∧ _ from ⟨by omega, by omega⟩) y) (fun y _ => ?_) (fun _ y => absurd rfl y)
    exact ma_icmp_eq 1128 dL_law_1043 rfl (fun _ => lw_1128 hL) (fun cq => absurd (by first | exact congrArg iw (rfl) | exact (congrArg iw (rfl)).symm) cq)
set_option maxHeartbeats 2000000 in
theorem lw_count {L : Nat} {S : Int → Int} {h : ma_H} {kc ks : Nat} {x5 x6 x7 : Option ma_V} (hL : 5 ≤ L ∧ L < 10) (hS : ∀ i, rg (S i)) (FH : FRC h) (M : FMD h) : ma_J (some (L, S)) mLw 11 kc ks 1048 [some (vr 2000000), some (vr 0), some (vr 73), some (vr 111), some (vi 0), x5, x6, x7] [] h 1000000 (fun r _ _ => r = some (vi 1)) := by
  obtain ⟨hb, F⟩ := FH
  have X0 : h 0 = co 11 (xo 0) := (F 0 (by decide)).trans ih0_0
  refine ma_aload_n dL_law_1048 rfl ?_
  refine ma_aload_n dL_law_1049 rfl ?_
  refine ma_iload dL_law_1050 rfl ?_
  refine ma_iconst dL_law_1052 ?_
  refine ma_iadd dL_law_1053 ?_
  refine ma_sald dL_law_1054 (by omega) (by omega) (by omega) ?_
  refine ma_cV [_] dL_law_1055 wX11_count lL_165 iX11_count sX11_count rfl (by exact X0) (Nat.le_of_ble_eq_true rfl) ?_
  refine c_X11_count ((F 0 (by decide)).trans ih0_0) ((F 1 (by decide)).trans ih0_1) ((F 2 (by decide)).trans ih0_2) gm_vg ((F 13 (by decide)).trans ih0_13) ((F 36 (by decide)).trans ih0_36) ((F 31 (by decide)).trans ih0_31) ((F 33 (by decide)).trans ih0_33) (hS _) ?_
  refine lw_z M (fun k _ => rfl) (fun M' => ?_)
  obtain ⟨m73, mS, m74, m75, m76, m85, m86, m87, m88, m89, m90, m99, m100, m101, m102, m103, m104, m105, m106, m107, m109, m110⟩ := M'
  obtain ⟨Aa, m74, mA⟩ := m74
  refine ma_aload_n dL_law_1058 rfl ?_
  refine ma_aload_n dL_law_1059 rfl ?_
  refine ma_iload dL_law_1060 rfl ?_
  refine ma_iconst dL_law_1062 ?_
  refine ma_iadd dL_law_1063 ?_
  refine ma_sald dL_law_1064 (by omega) (by omega) (by omega) ?_
  refine ma_cV [_] dL_law_1065 wX12_count lL_168 iX12_count sX12_count rfl (by exact m73) (Nat.le_of_ble_eq_true rfl) ?_
  refine c_X12_count m73 m74 gm_vg mA (hS _) ?_
  exact ma_icmp_eq 1128 dL_law_1068 rfl (fun _ => lw_1128 hL) (fun cq => absurd (by first | exact congrArg iw (rfl) | exact (congrArg iw (rfl)).symm) cq)
