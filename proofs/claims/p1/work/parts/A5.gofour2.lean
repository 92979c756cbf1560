def nu4 (v : Int) : Int := if v = 0 then 18 else if v = 1 then 4 else if v = 2 then 1 else 0
theorem lcg_four {X : Int → Prop} {cl : Int → Int} {v : Int} (v0 : 0 ≤ v ∧ v < 4) (hX : ∀ x, 0 ≤ x → x < 4 → (X x ↔ x ≠ v)) (c0 : cl 0 = 0) (c1 : cl 1 = 1) (c2 : cl 2 = 2) (c3 : cl 3 = 3) : LCG X cl 1 (la4 v) 3 (fun _ => 0) (fun _ => nu4 v) := by
  have ny : ∀ y, 0 ≤ y → y < 4 → ¬ X y → y = v := fun y a b hh => Classical.byContradiction fun q => hh ((hX y a b).mpr q)
  refine ⟨by decide, fun y y0 y1 hy => ⟨(show (0 : Int) ≤ 0 by decide), (show (0 : Int) < 1 by decide), ?_, fun c d0 d1 => ?_⟩, fun y y' y0 y1 y0' y1' hy hy' _ => (ny y y0 y1 hy).trans (ny y' y0' y1' hy').symm, fun j j0 j1 => ⟨v, v0.1, v0.2, fun z => (hX v v0.1 v0.2).mp z rfl, (show (0 : Int) = j by omega)⟩⟩
  · show 0 ≤ nu4 v ∧ nu4 v < 24
    clear hy
    rcases four_of v0.1 v0.2 with rfl | rfl | rfl | rfl <;> decide
  · rw [ny y y0 y1 hy]
    show cl (4 * 0 + im (nu4 v) c) = _
    rcases four_of v0.1 v0.2 with rfl | rfl | rfl | rfl <;> rcases four_of d0 d1 with rfl | rfl | rfl | rfl <;> first | exact c0 | exact c1 | exact c2 | exact c3
theorem lfg_four {G : Int → Int} {x v : Int} {X : Int → Prop} {go gl : Int → Int} (v0 : 0 ≤ v ∧ v < 4) (hX : ∀ c, 0 ≤ c → c < 4 → (X c ↔ c ≠ v)) (h1 : go 0 = x) (h2 : ∀ c, 0 ≤ c → c < 4 → gl c = la4 v c) (h3 : ∀ f', 0 ≤ f' → f' < 4 → f' ≠ v → go (1 + rkf v f') = bX G x f' ∧ ∀ c, 0 ≤ c → c < 4 → gl (4 * (1 + rkf v f') + im (pX G x f') c) = if c = f' then 3 else la4 v c) : LFG G x X go gl 4 (la4 v) 3 (fun c => 1 + rkf v c) := by
  refine ⟨⟨by decide, la4_ok v0⟩, ⟨by decide, by decide, h1, h2⟩, fun c c0 c1 hc => ?_, fun i i0 i1 => ?_⟩
  · have nv := (hX c c0 c1).mp hc
    have r := rkf_ok v0.1 v0.2 c0 c1 nv
    obtain ⟨a1, a2⟩ := h3 c c0 c1 nv
    exact ⟨(show 1 ≤ 1 + rkf v c by omega), (show 1 + rkf v c < 4 by omega), a1, a2⟩
  · rcases Int.lt_or_le (i - 1) v with z | z
    · exact ⟨i - 1, by omega, by omega, (hX _ (by omega) (by omega)).mpr (by omega), by show 1 + rkf v (i - 1) = i; unfold rkf; rw [if_neg (by omega)]; omega⟩
    · exact ⟨i, by omega, by omega, (hX _ (by omega) (by omega)).mpr (by omega), by show 1 + rkf v i = i; unfold rkf; rw [if_pos (by omega)]; omega⟩
theorem plc_4 {t x v a : Int} {X : Int → Prop} (ht : 1 ≤ t ∧ t ≤ 8) (x0 : 0 ≤ x ∧ x < t) (v0 : 0 ≤ v ∧ v < 4) (pl : PLC (168 + (4 * x + v)) a X) : a = x ∧ ∀ c, 0 ≤ c → c < 4 → (X c ↔ c ≠ v) := by
  rcases pl with z | z | z | z
  · omega
  · omega
  · omega
  · rw [show 168 + (4 * x + v) - 168 = 4 * x + v by omega, show (4 * x + v) / 4 = x by omega, show (4 * x + v) % 4 = v by omega] at z
    exact ⟨z.2.2.1, z.2.2.2⟩
set_option maxHeartbeats 2000000 in
theorem c_X12_goFour {h : ma_H} {b nx d : Nat} {t x v : Int} {G Aa C : Int → Int} {Q : Option ma_V → ma_H → Nat → Prop} {I : Nat → Int} (hM : h 73 = co 12 (mo I)) (hS : SMO h) (hb : h b = ci 33 Aa) (nb : mlen b = 0 ∧ b ≠ 77 ∧ b ≠ 73) (hG : VG t G) (hA : AG t G Aa) (rx : rg x) (rv : rg v) (hMR : (0 ≤ x ∧ x < t ∧ 0 ≤ v ∧ v < 4) → ∀ E P, BP t G E P → C4 t G E P (4 * x + v) → MR t G (168 + (4 * x + v)) (t - 3) C) (K1 : ¬ (0 ≤ x ∧ x < t ∧ 0 ≤ v ∧ v < 4) → Q (some (vi (-1))) h nx) (K2 : (0 ≤ x ∧ x < t ∧ 0 ≤ v ∧ v < 4) → ∀ E P, BP t G E P → ¬ C4 t G E P (4 * x + v) → ∀ h' I', MP h h' b I I' → h' b = ci 33 Aa → Q (some (vi (-2))) h' nx) (K0 : (0 ≤ x ∧ x < t ∧ 0 ≤ v ∧ v < 4) → ∀ E P, BP t G E P → C4 t G E P (4 * x + v) → ∀ h' I' TH C', MP h h' b I I' → h' b = ci 33 TH → AG (t - 3) C' TH → (∃ m r sg, IS (t - 3) C C' m r sg) → (∀ k, 4 * (t - 3) ≤ k → C' k = -1) → Q (some (vi 0)) h' nx) : ma_Ct mX12_goFour (d + 5) 0 0 [vr 73, vr b, vi x, vi v] h nx Q := by
  have ht := hG.1
  have nbk := nb_k nb
  have rx' := rx
  unfold rg at rx'
  obtain ⟨f86, g86⟩ : ∃ f, h 86 = ci 128 f := hS.1 86 (by decide)
  obtain ⟨f87, g87⟩ : ∃ f, h 87 = ci 32 f := hS.1 87 (by decide)
  refine ma_Ct.of (by decide +kernel) (Nat.le_of_ble_eq_true rfl) ?_
  refine ma_iload_n dX12_goFour_0 rfl ?_
  refine ma_iconst dX12_goFour_1 ?_
  refine ma_aload_n dX12_goFour_2 rfl ?_
  refine ma_iconst dX12_goFour_3 ?_
  refine ma_iald dX12_goFour_4 (by first | assumption | exact ma_up_s _ _ _ | exact (ma_up_n (by first | decide | omega)).trans (by assumption) | exact (ma_up_n (by first | decide | omega)).trans (ma_up_s _ _ _) | exact (ma_up_n (by first | decide | omega)).trans ((ma_up_n (by first | decide | omega)).trans (by assumption))) (by omega) (by omega) (by omega) ?_
  rw [hA.1]
  refine ma_iconst dX12_goFour_5 ?_
  refine ma_isub dX12_goFour_6 ?_
  refine ma_cS [_, _, _] dX12_goFour_7 wX12_in lX12_179 tX12_in (Nat.le_of_ble_eq_true rfl) ?_
  refine c_X12_in rx (by unfold rg; omega) (by unfold rg; omega) (fun a1 a2 => ?_) (fun a1 => ?_)
  · -- k1
    refine ma_rif_eq 22 dX12_goFour_10 rfl (by decide) (fun c10 => absurd c10 (by decide)) (fun c10 => ?_)
    refine ma_iload_n dX12_goFour_13 rfl ?_
    refine ma_iconst dX12_goFour_14 ?_
    refine ma_iconst dX12_goFour_15 ?_
    refine ma_cS [_, _, _] dX12_goFour_16 wX12_in lX12_179 tX12_in (Nat.le_of_ble_eq_true rfl) ?_
    refine c_X12_in rv (by unfold rg; omega) (by unfold rg; omega) (fun b1 b2 => ?_) (fun b1 => ?_)
    · -- k1
      refine ma_rif_ne 24 dX12_goFour_19 rfl (by decide) (fun c19 => ?_) (fun c19 => absurd c19 (by decide))
      refine ma_aload_n dX12_goFour_24 rfl ?_
      refine ma_aload_n dX12_goFour_25 rfl ?_
      refine ma_cV [_] dX12_goFour_26 wX12_layJoined lX12_269 iX12_layJoined sX12_layJoined rfl (by first | assumption | exact ma_up_s _ _ _ | exact (ma_up_n (by first | decide | omega)).trans (by assumption) | exact (ma_up_n (by first | decide | omega)).trans (ma_up_s _ _ _) | exact (ma_up_n (by first | decide | omega)).trans ((ma_up_n (by first | decide | omega)).trans (by assumption))) (Nat.le_of_ble_eq_true rfl) ?_
      refine c_X12_layJoined hM hb ⟨nbk 86 (by decide), nbk 87 (by decide)⟩ hG hA g86 g87 (fun E P F R hB => ?_)
      have okk : (0 ≤ x ∧ x < t ∧ 0 ≤ v ∧ v < 4) := ⟨by omega, by omega, by omega, by omega⟩
      have x0 : 0 ≤ x ∧ x < t := ⟨by omega, by omega⟩
      have v0 : 0 ≤ v ∧ v < 4 := ⟨by omega, by omega⟩
      have hk : oC t (4 * x + v) := ⟨by omega, by omega⟩
      have bp := bq_P hB (c := (4 * x + v)) hk.1 hk.2
      have rp : rg (P (4 * x + v)) := by unfold rg; omega
      refine ma_aload_n dX12_goFour_29 rfl ?_
      refine ma_getf dX12_goFour_30 fX12_51 (by first | assumption | exact ma_up_s _ _ _ | exact (ma_up_n (by first | decide | omega)).trans (by assumption) | exact (ma_up_n (by first | decide | omega)).trans (ma_up_s _ _ _) | exact (ma_up_n (by first | decide | omega)).trans ((ma_up_n (by first | decide | omega)).trans (by assumption))) (by rfl) ?_
      refine ma_iconst dX12_goFour_33 ?_
      refine ma_iload_n dX12_goFour_34 rfl ?_
      refine ma_imul dX12_goFour_35 ?_
      refine ma_iload_n dX12_goFour_36 rfl ?_
      refine ma_iadd dX12_goFour_37 ?_
      refine ma_iald dX12_goFour_38 (by first | assumption | exact ma_up_s _ _ _ | exact (ma_up_n (by first | decide | omega)).trans (by assumption) | exact (ma_up_n (by first | decide | omega)).trans (ma_up_s _ _ _) | exact (ma_up_n (by first | decide | omega)).trans ((ma_up_n (by first | decide | omega)).trans (by assumption))) (by omega) (by omega) (by omega) ?_
      rw [bp.1]
      refine ma_istoreN dX12_goFour_39 (by decide) rfl ?_
      refine ma_aload_n dX12_goFour_41 rfl ?_
      refine ma_aload_n dX12_goFour_42 rfl ?_
      refine ma_iload dX12_goFour_43 rfl ?_
      refine ma_cV [_, _] dX12_goFour_45 wX12_isRound lX12_297 iX12_isRound sX12_isRound rfl (by first | assumption | exact ma_up_s _ _ _ | exact (ma_up_n (by first | decide | omega)).trans (by assumption) | exact (ma_up_n (by first | decide | omega)).trans (ma_up_s _ _ _) | exact (ma_up_n (by first | decide | omega)).trans ((ma_up_n (by first | decide | omega)).trans (by assumption))) (Nat.le_of_ble_eq_true rfl) ?_
      refine c_X12_isRound ((ma_up_n (by first | decide | omega)).trans ((ma_up_n (by first | decide | omega)).trans hM)) ((ma_up_n (nbk 87 (by decide))).trans ((ma_up_n (nbk 86 (by decide))).trans hb)) hG hA ((ma_up_n (by decide)).trans (ma_up_s _ _ _)) (ma_up_s _ _ _) hB rp (fun hrd => ?_) (fun hrd => ?_)
      · -- k1
        refine ma_rif_eq 62 dX12_goFour_48 rfl (by decide) (fun c48 => absurd c48 (by decide)) (fun c48 => ?_)
        refine ma_aload_n dX12_goFour_51 rfl ?_
        refine ma_aload_n dX12_goFour_52 rfl ?_
        refine ma_iload dX12_goFour_53 rfl ?_
        refine ma_cV [_, _] dX12_goFour_55 wX12_sizeOf lX12_288 iX12_sizeOf sX12_sizeOf rfl (by first | assumption | exact ma_up_s _ _ _ | exact (ma_up_n (by first | decide | omega)).trans (by assumption) | exact (ma_up_n (by first | decide | omega)).trans (ma_up_s _ _ _) | exact (ma_up_n (by first | decide | omega)).trans ((ma_up_n (by first | decide | omega)).trans (by assumption))) (Nat.le_of_ble_eq_true rfl) ?_
        refine c_X12_sizeOf ((ma_up_n (by first | decide | omega)).trans ((ma_up_n (by first | decide | omega)).trans hM)) ((ma_up_n (nbk 87 (by decide))).trans ((ma_up_n (nbk 86 (by decide))).trans hb)) hG hA ((ma_up_n (by decide)).trans (ma_up_s _ _ _)) (ma_up_s _ _ _) hB rp ?_
        have szb := (sz_b (t := t) (x := P (4 * x + v)) (P := P) (G := G) ht).1
        refine ma_iconst dX12_goFour_58 ?_
        refine ma_rcmp_eq 65 dX12_goFour_59 rfl (by constructor <;> omega) (by decide) (fun c59 => ?_) (fun c59 => ?_)
        · -- 65
          refine ma_iconst dX12_goFour_65 ?_
          refine ma_istoreN dX12_goFour_66 (by decide) rfl ?_
          refine ma_iconst dX12_goFour_68 ?_
          refine ma_istoreN dX12_goFour_69 (by decide) rfl ?_
          refine l_g4_71 ((ma_up_n (by first | decide | omega)).trans ((ma_up_n (by first | decide | omega)).trans hM)) ((ma_up_n (nbk 87 (by decide))).trans ((ma_up_n (nbk 86 (by decide))).trans hb)) hG hA ((ma_up_n (by decide)).trans (ma_up_s _ _ _)) (ma_up_s _ _ _) hB rp (fun bb _ hmk => ?_) 33 0 0 (by omega) (by omega) (by omega) (mk_iff mk_0 (fun i i0 i1 => ⟨fun z => z.elim, fun ⟨c, c0, c1, _⟩ => by omega⟩))
          refine ma_iload dX12_goFour_114 rfl ?_
          refine ma_cS [_] dX12_goFour_116 wJ6_bitCount_0f7a4 lX12_416 tJ6_bitCount_0f7a4 (Nat.le_of_ble_eq_true rfl) ?_
          refine c_J6_bitCount ⟨hmk.1, hmk.2.1⟩ ?_
          have pcb : 0 ≤ pcn bb ∧ pcn bb ≤ 8 := by unfold pcn; omega
          refine ma_iconst dX12_goFour_119 ?_
          refine ma_rcmp_eq 126 dX12_goFour_120 rfl (by constructor <;> omega) (by decide) (fun c120 => ?_) (fun c120 => ?_)
          · -- 126
            refine ma_iconst dX12_goFour_126 ?_
            refine ma_istoreN dX12_goFour_127 (by decide) rfl ?_
            refine l_g4_129 ((ma_up_n (by first | decide | omega)).trans ((ma_up_n (by first | decide | omega)).trans hM)) ((ma_up_n (nbk 87 (by decide))).trans ((ma_up_n (nbk 86 (by decide))).trans hb)) hG hA ((ma_up_n (by decide)).trans (ma_up_s _ _ _)) (ma_up_s _ _ _) hB rp hmk (fun hno => (K2 okk E P hB.1 (fun z => hno (fun i j a0 a1 b0 b1 ne s1 s2 => c4_ga hG z ⟨a0, a1⟩ ⟨b0, b1⟩ ne s1 s2)) _ _ ⟨by repeat (first | exact kp_rf _ _ | assumption | refine kp_up (by simp) ?_), (ma_up_n (by decide)).trans ((ma_up_n (by decide)).trans (hM)), by repeat (first | exact ki_rf _ | refine ki_u ?_ (by decide)), by repeat (first | assumption | refine smo_n (by first | decide | exact nb.1) (by first | decide | exact nb.2.1) ?_ | refine smo_a rfl (by decide) ?_)⟩ ((ma_up_n (nbk 87 (by decide))).trans ((ma_up_n (nbk 86 (by decide))).trans (hb))))) (fun _ _ hga => ?_) 9 0 _ (by omega) (by omega) (by omega) (fun i j a0 a1 b0 b1 c => by omega)
            have hC4 : C4 t G E P (4 * x + v) := c4_of hG hB.1 hk hrd c59 hmk c120 (fun i j a0 a1 b0 b1 ne s1 s2 => hga i j a0 a1 b0 b1 ne s1 s2)
            have hgl : ∀ f, 0 ≤ f → f < 4 → f ≠ v → 0 ≤ G (4 * x + f) := fun f f0 f1 fv => by
              have q := (q4 hG hC4 hk rfl).1 f f0 f1 (by rw [show (4 * x + v) % 4 = v by omega]; exact fv)
              rw [show (4 * x + v) / 4 = x by omega] at q
              exact q.1
            obtain ⟨go0, g92⟩ : ∃ f, h 92 = ci 4 f := hS.1 92 (by decide)
            obtain ⟨gl0, g93⟩ : ∃ f, h 93 = ci 16 f := hS.1 93 (by decide)
            obtain ⟨cl0, g94⟩ : ∃ f, h 94 = ci 16 f := hS.1 94 (by decide)
            obtain ⟨lb0, g97⟩ : ∃ f, h 97 = ci 4 f := hS.1 97 (by decide)
            obtain ⟨ot0, g98⟩ : ∃ f, h 98 = ci 4 f := hS.1 98 (by decide)
            refine ma_aload_n dX12_goFour_200 rfl ?_
            refine ma_cV [] dX12_goFour_201 wX12_beginMove lX12_402 iX12_beginMove sX12_beginMove rfl (by first | assumption | exact ma_up_s _ _ _ | exact (ma_up_n (by first | decide | omega)).trans (by assumption) | exact (ma_up_n (by first | decide | omega)).trans (ma_up_s _ _ _) | exact (ma_up_n (by first | decide | omega)).trans ((ma_up_n (by first | decide | omega)).trans (by assumption))) (Nat.le_of_ble_eq_true rfl) ?_
            refine c_X12_beginMove ((ma_up_n (by first | decide | omega)).trans ((ma_up_n (by first | decide | omega)).trans hM)) ?_
            refine ma_iconst dX12_goFour_204 ?_
            refine ma_istoreN dX12_goFour_205 (by decide) rfl ?_
            refine ma_iconst dX12_goFour_207 ?_
            refine ma_istoreN dX12_goFour_208 (by decide) rfl ?_
            rw [show (ma_up (ma_up (ma_up h 86 (ci 128 F)) 87 (ci 32 R)) 73 (co 12 (mo (iu (iu I 32 0) 34 0)))) = ma_up (ma_up (ma_up (ma_up h 86 (ci 128 F)) 87 (ci 32 R)) 73 (co 12 (mo (iu (iu I 32 0) 34 0)))) 97 (ci 4 lb0) from (ma_up_id ((ma_up_n (by decide)).trans ((ma_up_n (by decide)).trans ((ma_up_n (by decide)).trans (g97))))).symm]
            refine l_g4_210 (ma_up_s _ _ _) v0 (fun LB x6 hLB => ?_) 5 0 lb0 0 (by omega) (by omega) (by omega) (by rw [if_neg (by omega)]) (fun c' a0 a1 => by omega)
            refine ma_aload_n dX12_goFour_244 rfl ?_
            refine ma_iload_n dX12_goFour_245 rfl ?_
            refine ma_aload_n dX12_goFour_246 rfl ?_
            refine ma_getf dX12_goFour_247 fX12_81 (by first | assumption | exact ma_up_s _ _ _ | exact (ma_up_n (by first | decide | omega)).trans (by assumption) | exact (ma_up_n (by first | decide | omega)).trans (ma_up_s _ _ _) | exact (ma_up_n (by first | decide | omega)).trans ((ma_up_n (by first | decide | omega)).trans (by assumption))) (by rfl) ?_
            refine ma_iconst dX12_goFour_250 ?_
            refine ma_iald dX12_goFour_251 (by first | assumption | exact ma_up_s _ _ _ | exact (ma_up_n (by first | decide | omega)).trans (by assumption) | exact (ma_up_n (by first | decide | omega)).trans (ma_up_s _ _ _) | exact (ma_up_n (by first | decide | omega)).trans ((ma_up_n (by first | decide | omega)).trans (by assumption))) (by omega) (by omega) (by omega) ?_
            refine ma_aload_n dX12_goFour_252 rfl ?_
            refine ma_getf dX12_goFour_253 fX12_81 (by first | assumption | exact ma_up_s _ _ _ | exact (ma_up_n (by first | decide | omega)).trans (by assumption) | exact (ma_up_n (by first | decide | omega)).trans (ma_up_s _ _ _) | exact (ma_up_n (by first | decide | omega)).trans ((ma_up_n (by first | decide | omega)).trans (by assumption))) (by rfl) ?_
            refine ma_iconst dX12_goFour_256 ?_
            refine ma_iald dX12_goFour_257 (by first | assumption | exact ma_up_s _ _ _ | exact (ma_up_n (by first | decide | omega)).trans (by assumption) | exact (ma_up_n (by first | decide | omega)).trans (ma_up_s _ _ _) | exact (ma_up_n (by first | decide | omega)).trans ((ma_up_n (by first | decide | omega)).trans (by assumption))) (by omega) (by omega) (by omega) ?_
            refine ma_aload_n dX12_goFour_258 rfl ?_
            refine ma_getf dX12_goFour_259 fX12_81 (by first | assumption | exact ma_up_s _ _ _ | exact (ma_up_n (by first | decide | omega)).trans (by assumption) | exact (ma_up_n (by first | decide | omega)).trans (ma_up_s _ _ _) | exact (ma_up_n (by first | decide | omega)).trans ((ma_up_n (by first | decide | omega)).trans (by assumption))) (by rfl) ?_
            refine ma_iconst dX12_goFour_262 ?_
            refine ma_iald dX12_goFour_263 (by first | assumption | exact ma_up_s _ _ _ | exact (ma_up_n (by first | decide | omega)).trans (by assumption) | exact (ma_up_n (by first | decide | omega)).trans (ma_up_s _ _ _) | exact (ma_up_n (by first | decide | omega)).trans ((ma_up_n (by first | decide | omega)).trans (by assumption))) (by omega) (by omega) (by omega) ?_
            refine ma_aload_n dX12_goFour_264 rfl ?_
            refine ma_getf dX12_goFour_265 fX12_81 (by first | assumption | exact ma_up_s _ _ _ | exact (ma_up_n (by first | decide | omega)).trans (by assumption) | exact (ma_up_n (by first | decide | omega)).trans (ma_up_s _ _ _) | exact (ma_up_n (by first | decide | omega)).trans ((ma_up_n (by first | decide | omega)).trans (by assumption))) (by rfl) ?_
            refine ma_iconst dX12_goFour_268 ?_
            refine ma_iald dX12_goFour_269 (by first | assumption | exact ma_up_s _ _ _ | exact (ma_up_n (by first | decide | omega)).trans (by assumption) | exact (ma_up_n (by first | decide | omega)).trans (ma_up_s _ _ _) | exact (ma_up_n (by first | decide | omega)).trans ((ma_up_n (by first | decide | omega)).trans (by assumption))) (by omega) (by omega) (by omega) ?_
            refine ma_cV [_, _, _, _, _] dX12_goFour_270 wX12_goes lX12_405 iX12_goes sX12_goes rfl (by first | assumption | exact ma_up_s _ _ _ | exact (ma_up_n (by first | decide | omega)).trans (by assumption) | exact (ma_up_n (by first | decide | omega)).trans (ma_up_s _ _ _) | exact (ma_up_n (by first | decide | omega)).trans ((ma_up_n (by first | decide | omega)).trans (by assumption))) (Nat.le_of_ble_eq_true rfl) ?_
            refine c_X12_goes ((ma_up_n (by decide)).trans ((ma_up_s _ _ _))) ((ma_up_n (by decide)).trans ((ma_up_n (by decide)).trans ((ma_up_n (by decide)).trans ((ma_up_n (by decide)).trans (g92))))) ((ma_up_n (by decide)).trans ((ma_up_n (by decide)).trans ((ma_up_n (by decide)).trans ((ma_up_n (by decide)).trans (g93))))) (g := 0) rfl (by decide) ?_
            refine ma_iconst dX12_goFour_273 ?_
            refine ma_istoreN dX12_goFour_274 (by decide) rfl ?_
            rw [hf_of ((ma_up_n (by decide)).trans ((ma_up_n (by decide)).trans ((ma_up_n (by decide)).trans ((ma_up_n (by decide)).trans ((ma_up_n (by decide)).trans ((ma_up_n (by decide)).trans ((ma_up_n (by decide)).trans (g98)))))))) ((ma_up_n (by decide)).trans ((ma_up_n (by decide)).trans ((ma_up_s _ _ _)))) ((ma_up_n (by decide)).trans ((ma_up_s _ _ _))) ((ma_up_s _ _ _))]
            refine l_g4_276 (I := I) ((ma_up_n (nbk 73 (by decide))).trans ((ma_up_n (nbk 93 (by decide))).trans ((ma_up_n (nbk 92 (by decide))).trans ((ma_up_n (nbk 97 (by decide))).trans ((ma_up_n (nbk 73 (by decide))).trans ((ma_up_n (nbk 87 (by decide))).trans ((ma_up_n (nbk 86 (by decide))).trans (hb)))))))) nb hG hA ((ma_up_n (by decide)).trans ((ma_up_n (by decide)).trans ((ma_up_n (by decide)).trans ((ma_up_s _ _ _))))) hLB x0 v0 hgl (fun OT go gl J _ _ hJ hKI h34 hI => ?_) 5 0 _ _ _ _ 1 _ _ (by omega) (by omega) (by omega) rfl (by rw [if_neg (by omega)]; rfl) (ki_u (ki_u (ki_u (ki_rf _) (by decide)) (by decide)) (by decide)) rfl ⟨⟨uf_s _ _ _, fun c c0 c1 => ?_⟩, fun f' a0 a1 => by omega⟩
            rotate_left
            · rw [← hLB c c0 c1]
              rcases four_of c0 c1 with rfl | rfl | rfl | rfl <;> rfl
            refine ma_aload_n dX12_goFour_387 rfl ?_
            refine ma_iconst dX12_goFour_388 ?_
            refine ma_iconst dX12_goFour_389 ?_
            refine ma_iconst dX12_goFour_390 ?_
            refine ma_iconst dX12_goFour_391 ?_
            refine ma_cV [_, _, _, _] dX12_goFour_392 wX12_arrives lX12_409 iX12_arrives sX12_arrives rfl (by first | exact hf_73 | exact ma_up_s _ _ _ | exact (ma_up_n (by decide)).trans (ma_up_s _ _ _)) (Nat.le_of_ble_eq_true rfl) ?_
            refine c_X12_arrives hf_73 ((hf_n (by decide)).trans ((ma_up_n (by decide)).trans ((ma_up_n (by decide)).trans ((ma_up_n (by decide)).trans ((ma_up_n (by decide)).trans ((ma_up_n (by decide)).trans ((ma_up_n (by decide)).trans ((ma_up_n (by decide)).trans (g94))))))))) (g := 0) h34 (by decide) ?_
            refine ma_aload_n dX12_goFour_395 rfl ?_
            refine ma_aload_n dX12_goFour_396 rfl ?_
            refine ma_cV [_] dX12_goFour_397 wX12_move lX12_413 iX12_move sX12_move rfl (by first | exact hf_73 | exact ma_up_s _ _ _ | exact (ma_up_n (by decide)).trans (ma_up_s _ _ _)) (Nat.le_of_ble_eq_true rfl) ?_
            obtain ⟨a, X, nw, s, H, T, pl, h1, h2, h3⟩ := hMR okk E P hB.1 hC4
            obtain ⟨ea, hX⟩ := plc_4 ht x0 v0 pl
            subst ea
            have es := four_t (s := s) (X := X) hG hk hC4 (fun c c0 c1 => by rw [show (4 * a + v) % 4 = v by omega]; exact hX c c0 c1) (by rw [show (4 * a + v) / 4 = a by omega]; exact h1.1.2.2.1)
            refine m_move (gm := 4) (cm := 1) (la := la4 v) (e := 3) (ix := fun c => 1 + rkf v c) (jn := fun _ => 0) (nu := fun _ => nu4 v) (ma_up_s _ _ _) (by unfold hf; repeat (first | assumption | refine smo_n (by first | decide | exact nb.1) (by first | decide | exact nb.2.1) ?_ | refine smo_a rfl (by decide) ?_)) ((ma_up_n (nbk 73 (by decide))).trans ((ma_up_n (nbk 94 (by decide))).trans ((hf_n ⟨nbk 98 (by decide), nbk 92 (by decide), nbk 93 (by decide), nbk 73 (by decide)⟩).trans ((ma_up_n (nbk 73 (by decide))).trans ((ma_up_n (nbk 93 (by decide))).trans ((ma_up_n (nbk 92 (by decide))).trans ((ma_up_n (nbk 97 (by decide))).trans ((ma_up_n (nbk 73 (by decide))).trans ((ma_up_n (nbk 87 (by decide))).trans ((ma_up_n (nbk 86 (by decide))).trans (hb))))))))))) nb hG hA h1 h2 h3 (lfg_four v0 hX hI.1.1 hI.1.2 hI.2) (lcg_four v0 hX rfl rfl rfl rfl) es.symm ((ma_up_n (by decide)).trans ((ma_up_n (by decide)).trans hf_92)) ((ma_up_n (by decide)).trans ((ma_up_n (by decide)).trans hf_93)) ((ma_up_n (by decide)).trans (ma_up_s _ _ _)) ((iu_n (by decide)).trans hJ) (iu_s _ _ _) (fun h' TH C' q1 q2 q3 q4 q5 q6 q7 => ?_)
            refine ma_iconst dX12_goFour_400 ?_
            refine ma_iret dX12_goFour_401 rfl (K0 okk E P hB.1 hC4 h' _ TH C' ⟨?_, q2, ki_u hKI (by decide), q3⟩ q4 q5 q6 q7)
            refine kp_tr ?_ q1
            refine kp_up (by simp) (kp_up (by simp) ?_)
            unfold hf
            repeat (first | exact kp_rf _ _ | assumption | refine kp_up (by simp) ?_)
          · -- 123
            refine ma_bipush dX12_goFour_123 ?_
            exact ma_iret dX12_goFour_125 rfl (K2 okk E P hB.1 (fun z => by obtain ⟨m, m1, m2⟩ := z.2.2.2; exact c120 (by rw [(mk_eq hmk m1).mpr (fun _ _ _ => Iff.rfl)]; exact m2)) _ _ ⟨by repeat (first | exact kp_rf _ _ | assumption | refine kp_up (by simp) ?_), (ma_up_n (by decide)).trans ((ma_up_n (by decide)).trans (hM)), by repeat (first | exact ki_rf _ | refine ki_u ?_ (by decide)), by repeat (first | assumption | refine smo_n (by first | decide | exact nb.1) (by first | decide | exact nb.2.1) ?_ | refine smo_a rfl (by decide) ?_)⟩ ((ma_up_n (nbk 87 (by decide))).trans ((ma_up_n (nbk 86 (by decide))).trans (hb))))
        · -- 62
          refine ma_bipush dX12_goFour_62 ?_
          exact ma_iret dX12_goFour_64 rfl (K2 okk E P hB.1 (fun z => c59 z.1) _ _ ⟨by repeat (first | exact kp_rf _ _ | assumption | refine kp_up (by simp) ?_), (ma_up_n (by decide)).trans ((ma_up_n (by decide)).trans (hM)), by repeat (first | exact ki_rf _ | refine ki_u ?_ (by decide)), by repeat (first | assumption | refine smo_n (by first | decide | exact nb.1) (by first | decide | exact nb.2.1) ?_ | refine smo_a rfl (by decide) ?_)⟩ ((ma_up_n (nbk 87 (by decide))).trans ((ma_up_n (nbk 86 (by decide))).trans (hb))))
      · -- k0
        refine ma_rif_eq 62 dX12_goFour_48 rfl (by decide) (fun c48 => ?_) (fun c48 => absurd c48 (by decide))
        refine ma_bipush dX12_goFour_62 ?_
        exact ma_iret dX12_goFour_64 rfl (K2 okk E P hB.1 (fun z => hrd ⟨z.2.1.1, z.2.1.2⟩) _ _ ⟨by repeat (first | exact kp_rf _ _ | assumption | refine kp_up (by simp) ?_), (ma_up_n (by decide)).trans ((ma_up_n (by decide)).trans (hM)), by repeat (first | exact ki_rf _ | refine ki_u ?_ (by decide)), by repeat (first | assumption | refine smo_n (by first | decide | exact nb.1) (by first | decide | exact nb.2.1) ?_ | refine smo_a rfl (by decide) ?_)⟩ ((ma_up_n (nbk 87 (by decide))).trans ((ma_up_n (nbk 86 (by decide))).trans (hb))))
    · -- k0
      refine ma_rif_ne 24 dX12_goFour_19 rfl (by decide) (fun c19 => absurd c19 (by decide)) (fun c19 => ?_)
      refine ma_iconst dX12_goFour_22 ?_
      exact ma_iret dX12_goFour_23 rfl (K1 (by omega))
  · -- k0
    refine ma_rif_eq 22 dX12_goFour_10 rfl (by decide) (fun c10 => ?_) (fun c10 => absurd c10 (by decide))
    refine ma_iconst dX12_goFour_22 ?_
    exact ma_iret dX12_goFour_23 rfl (K1 (by omega))
