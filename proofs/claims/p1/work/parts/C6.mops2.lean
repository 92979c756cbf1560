/-- the model's ints behind an answer that tells n numbers -/
def IR (I I' : Nat → Int) (n : Int) : Prop := I' 4 = n ∧ I' 5 = 0 ∧ ∀ k, k ≠ 4 → k ≠ 5 → k ≠ 22 → I' k = I k
set_option maxHeartbeats 2000000 in
theorem c_X12_degree {h : ma_H} {nx d : Nat} {I : Nat → Int} {t : Int} {G Aa f F0 R0 fi0 : Int → Int} {Q : Option ma_V → ma_H → Nat → Prop} (h74 : h 74 = ci 33 Aa) (hG : VG t G) (hA : AG t G Aa) {x u v : Int} (rx : rg x) (ru : rg u) (rv : rg v) (K0 : ¬ (0 ≤ x ∧ x < t ∧ 0 ≤ u ∧ u < 4 ∧ 0 ≤ v ∧ v < 4 ∧ u ≠ v) → Q (some (vi (-1))) (rh h (iu I 5 0) f F0 R0 fi0) nx) (K : (0 ≤ x ∧ x < t ∧ 0 ≤ u ∧ u < 4 ∧ 0 ≤ v ∧ v < 4 ∧ u ≠ v) → ∀ E P F R I' fa fb, BQ t G E P F R → (fa = 1 ∧ fP E G (16 * t) 0 (eg E (16 * x + 4 * u + v))) ∨ (fa = 0 ∧ ¬ fP E G (16 * t) 0 (eg E (16 * x + 4 * u + v))) → (fb = 1 ∧ E (16 * x + 4 * u + v) = E (tr (16 * x + 4 * u + v))) ∨ (fb = 0 ∧ E (16 * x + 4 * u + v) ≠ E (tr (16 * x + 4 * u + v))) → IR I I' 2 → Q (some (vi (dA E (16 * t) (eg E (16 * x + 4 * u + v))))) (rh h I' (uf (uf f 0 fa) 1 fb) F R fi0) nx) : ma_Ct mX12_degree (d + 7) 0 0 [vr 73, vi x, vi u, vi v] (rh h I f F0 R0 fi0) nx Q := by
  have ht := hG.1
  refine ma_Ct.of (by decide +kernel) (Nat.le_of_ble_eq_true rfl) ?_
  refine ma_aload_n dX12_degree_0 rfl ?_
  refine ma_iconst dX12_degree_1 ?_
  refine ma_puti dX12_degree_2 fX12_128 (by first | exact rh_73 | exact ((rh_n (by decide)).trans h74) | exact rh_86 | exact rh_87 | exact rh_88) (Nat.le_of_ble_eq_true rfl) ?_
  rw [mo_5, rh_p]
  refine ma_aload_n dX12_degree_5 rfl ?_
  refine ma_iload_n dX12_degree_6 rfl ?_
  refine ma_cV [_] dX12_degree_7 wX12_isTet lX12_261 iX12_isTet sX12_isTet rfl (by first | exact rh_73 | exact ((rh_n (by decide)).trans h74) | exact rh_86 | exact rh_87 | exact rh_88) (Nat.le_of_ble_eq_true rfl) ?_
  refine c_X12_isTet rh_73 ((rh_n (by decide)).trans h74) ht hA rx (fun x0 x1 => ?_) (fun hx => ?_)
  · -- k1
    refine ma_rif_eq 21 dX12_degree_10 rfl (by decide) (fun c10 => absurd c10 (by decide)) (fun c10 => ?_)
    refine ma_iload_n dX12_degree_13 rfl ?_
    refine ma_iload_n dX12_degree_14 rfl ?_
    refine ma_cS [_, _] dX12_degree_15 wX12_arePair lX12_265 tX12_arePair (Nat.le_of_ble_eq_true rfl) ?_
    refine c_X12_arePair ru rv (fun u0 v0 uv => ?_) (fun huv => ?_)
    · -- k1
      refine ma_rif_ne 23 dX12_degree_18 rfl (by decide) (fun c18 => ?_) (fun c18 => absurd c18 (by decide))
      refine ma_aload_n dX12_degree_23 rfl ?_
      refine ma_aload_n dX12_degree_24 rfl ?_
      refine ma_getf dX12_degree_25 fX12_9 (by first | exact rh_73 | exact ((rh_n (by decide)).trans h74) | exact rh_86 | exact rh_87 | exact rh_88) (by rfl) ?_
      refine ma_cV [_] dX12_degree_28 wX12_layJoined lX12_269 iX12_layJoined sX12_layJoined rfl (by first | exact rh_73 | exact ((rh_n (by decide)).trans h74) | exact rh_86 | exact rh_87 | exact rh_88) (Nat.le_of_ble_eq_true rfl) ?_
      refine r_lj h74 hG hA (fun E P F R hB => ?_)
      have b4 := ct_in (qP P) (4 * t).toNat
      have b5 := ct_in (cP E) (16 * t).toNat
      have bc := br_b (E := E) (P := P) (G := G) ht
      have hc : (0 ≤ x ∧ x < t ∧ 0 ≤ u ∧ u < 4 ∧ 0 ≤ v ∧ v < 4 ∧ u ≠ v) := ⟨x0, x1, u0.1, u0.2, v0.1, v0.2, uv⟩
      have ge := (eg_cP hB.1 hG (oe_of hc)).2.1
      have g0 := ge.1
      have g1 := ge.2.1
      clear ge
      refine ma_aload_n dX12_degree_31 rfl ?_
      refine ma_iconst dX12_degree_32 ?_
      refine ma_puti dX12_degree_33 fX12_132 (by first | exact rh_73 | exact ((rh_n (by decide)).trans h74) | exact rh_86 | exact rh_87 | exact rh_88) (Nat.le_of_ble_eq_true rfl) ?_
      rw [mo_4, rh_p]
      refine ma_aload_n dX12_degree_36 rfl ?_
      refine ma_aload_n dX12_degree_37 rfl ?_
      refine ma_aload_n dX12_degree_38 rfl ?_
      refine ma_getf dX12_degree_39 fX12_9 (by first | exact rh_73 | exact ((rh_n (by decide)).trans h74) | exact rh_86 | exact rh_87 | exact rh_88) (by rfl) ?_
      refine ma_aload_n dX12_degree_42 rfl ?_
      refine ma_iload_n dX12_degree_43 rfl ?_
      refine ma_iload_n dX12_degree_44 rfl ?_
      refine ma_iload_n dX12_degree_45 rfl ?_
      refine ma_cV [_, _, _] dX12_degree_46 wX12_edgeOf lX12_258 iX12_edgeOf sX12_edgeOf rfl (by first | exact rh_73 | exact ((rh_n (by decide)).trans h74) | exact rh_86 | exact rh_87 | exact rh_88) (Nat.le_of_ble_eq_true rfl) ?_
      refine c_X12_edgeOf rh_73 rh_86 hG hB ⟨x0, x1⟩ u0 v0 uv ?_
      refine ma_cV [_, _] dX12_degree_49 wX12_isFree lX12_272 iX12_isFree sX12_isFree rfl (by first | exact rh_73 | exact ((rh_n (by decide)).trans h74) | exact rh_86 | exact rh_87 | exact rh_88) (Nat.le_of_ble_eq_true rfl) ?_
      refine c_X12_isFree rh_73 ((rh_n (by decide)).trans h74) hG hA rh_86 rh_87 hB (by unfold rg; omega) (fun hf => ?_) (fun hf => ?_)
      · -- k1
        refine ma_rif_eq 59 dX12_degree_52 rfl (by decide) (fun c52 => absurd c52 (by decide)) (fun c52 => ?_)
        refine ma_lconst (z := 1) dX12_degree_55 rfl ?_
        refine ma_goto 60 dX12_degree_56 rfl ?_
        refine ma_cV [_] dX12_degree_60 wX12_tell lX12_231 iX12_tell sX12_tell rfl (by first | exact rh_73 | exact ((rh_n (by decide)).trans h74) | exact rh_86 | exact rh_87 | exact rh_88) (Nat.le_of_ble_eq_true rfl) ?_
        refine r_tell 0 rfl (by decide) rfl ?_
        refine ma_aload_n dX12_degree_63 rfl ?_
        refine ma_aload_n dX12_degree_64 rfl ?_
        refine ma_iload_n dX12_degree_65 rfl ?_
        refine ma_iload_n dX12_degree_66 rfl ?_
        refine ma_iload_n dX12_degree_67 rfl ?_
        refine ma_cV [_, _, _] dX12_degree_68 wX12_isReversed lX12_276 iX12_isReversed sX12_isReversed rfl (by first | exact rh_73 | exact ((rh_n (by decide)).trans h74) | exact rh_86 | exact rh_87 | exact rh_88) (Nat.le_of_ble_eq_true rfl) ?_
        refine c_X12_isReversed rh_73 rh_86 hG hB ⟨x0, x1⟩ u0 v0 uv (fun hr => ?_) (fun hr => ?_)
        · -- k1
          refine ma_rif_eq 78 dX12_degree_71 rfl (by decide) (fun c71 => absurd c71 (by decide)) (fun c71 => ?_)
          refine ma_lconst (z := 1) dX12_degree_74 rfl ?_
          refine ma_goto 79 dX12_degree_75 rfl ?_
          refine ma_cV [_] dX12_degree_79 wX12_tell lX12_231 iX12_tell sX12_tell rfl (by first | exact rh_73 | exact ((rh_n (by decide)).trans h74) | exact rh_86 | exact rh_87 | exact rh_88) (Nat.le_of_ble_eq_true rfl) ?_
          refine r_tell 1 rfl (by decide) rfl ?_
          refine ma_aload_n dX12_degree_82 rfl ?_
          refine ma_aload_n dX12_degree_83 rfl ?_
          refine ma_getf dX12_degree_84 fX12_9 (by first | exact rh_73 | exact ((rh_n (by decide)).trans h74) | exact rh_86 | exact rh_87 | exact rh_88) (by rfl) ?_
          refine ma_aload_n dX12_degree_87 rfl ?_
          refine ma_iload_n dX12_degree_88 rfl ?_
          refine ma_iload_n dX12_degree_89 rfl ?_
          refine ma_iload_n dX12_degree_90 rfl ?_
          refine ma_cV [_, _, _] dX12_degree_91 wX12_edgeOf lX12_258 iX12_edgeOf sX12_edgeOf rfl (by first | exact rh_73 | exact ((rh_n (by decide)).trans h74) | exact rh_86 | exact rh_87 | exact rh_88) (Nat.le_of_ble_eq_true rfl) ?_
          refine c_X12_edgeOf rh_73 rh_86 hG hB ⟨x0, x1⟩ u0 v0 uv ?_
          refine ma_cV [_, _] dX12_degree_94 wX12_degreeOf lX12_279 iX12_degreeOf sX12_degreeOf rfl (by first | exact rh_73 | exact ((rh_n (by decide)).trans h74) | exact rh_86 | exact rh_87 | exact rh_88) (Nat.le_of_ble_eq_true rfl) ?_
          refine c_X12_degreeOf rh_73 ((rh_n (by decide)).trans h74) hG hA rh_86 rh_87 hB (by unfold rg; omega) ?_
          exact ma_iret dX12_degree_97 rfl (K hc E P F R _ 1 1 hB (Or.inl ⟨rfl, hf⟩) (Or.inl ⟨rfl, hr⟩) ⟨rfl, rfl, fun k a b c => by simp only [iu, if_neg a, if_neg b, if_neg c]⟩)
        · -- k0
          refine ma_rif_eq 78 dX12_degree_71 rfl (by decide) (fun c71 => ?_) (fun c71 => absurd c71 (by decide))
          refine ma_lconst (z := 0) dX12_degree_78 rfl ?_
          refine ma_cV [_] dX12_degree_79 wX12_tell lX12_231 iX12_tell sX12_tell rfl (by first | exact rh_73 | exact ((rh_n (by decide)).trans h74) | exact rh_86 | exact rh_87 | exact rh_88) (Nat.le_of_ble_eq_true rfl) ?_
          refine r_tell 1 rfl (by decide) rfl ?_
          refine ma_aload_n dX12_degree_82 rfl ?_
          refine ma_aload_n dX12_degree_83 rfl ?_
          refine ma_getf dX12_degree_84 fX12_9 (by first | exact rh_73 | exact ((rh_n (by decide)).trans h74) | exact rh_86 | exact rh_87 | exact rh_88) (by rfl) ?_
          refine ma_aload_n dX12_degree_87 rfl ?_
          refine ma_iload_n dX12_degree_88 rfl ?_
          refine ma_iload_n dX12_degree_89 rfl ?_
          refine ma_iload_n dX12_degree_90 rfl ?_
          refine ma_cV [_, _, _] dX12_degree_91 wX12_edgeOf lX12_258 iX12_edgeOf sX12_edgeOf rfl (by first | exact rh_73 | exact ((rh_n (by decide)).trans h74) | exact rh_86 | exact rh_87 | exact rh_88) (Nat.le_of_ble_eq_true rfl) ?_
          refine c_X12_edgeOf rh_73 rh_86 hG hB ⟨x0, x1⟩ u0 v0 uv ?_
          refine ma_cV [_, _] dX12_degree_94 wX12_degreeOf lX12_279 iX12_degreeOf sX12_degreeOf rfl (by first | exact rh_73 | exact ((rh_n (by decide)).trans h74) | exact rh_86 | exact rh_87 | exact rh_88) (Nat.le_of_ble_eq_true rfl) ?_
          refine c_X12_degreeOf rh_73 ((rh_n (by decide)).trans h74) hG hA rh_86 rh_87 hB (by unfold rg; omega) ?_
          exact ma_iret dX12_degree_97 rfl (K hc E P F R _ 1 0 hB (Or.inl ⟨rfl, hf⟩) (Or.inr ⟨rfl, hr⟩) ⟨rfl, rfl, fun k a b c => by simp only [iu, if_neg a, if_neg b, if_neg c]⟩)
      · -- k0
        refine ma_rif_eq 59 dX12_degree_52 rfl (by decide) (fun c52 => ?_) (fun c52 => absurd c52 (by decide))
        refine ma_lconst (z := 0) dX12_degree_59 rfl ?_
        refine ma_cV [_] dX12_degree_60 wX12_tell lX12_231 iX12_tell sX12_tell rfl (by first | exact rh_73 | exact ((rh_n (by decide)).trans h74) | exact rh_86 | exact rh_87 | exact rh_88) (Nat.le_of_ble_eq_true rfl) ?_
        refine r_tell 0 rfl (by decide) rfl ?_
        refine ma_aload_n dX12_degree_63 rfl ?_
        refine ma_aload_n dX12_degree_64 rfl ?_
        refine ma_iload_n dX12_degree_65 rfl ?_
        refine ma_iload_n dX12_degree_66 rfl ?_
        refine ma_iload_n dX12_degree_67 rfl ?_
        refine ma_cV [_, _, _] dX12_degree_68 wX12_isReversed lX12_276 iX12_isReversed sX12_isReversed rfl (by first | exact rh_73 | exact ((rh_n (by decide)).trans h74) | exact rh_86 | exact rh_87 | exact rh_88) (Nat.le_of_ble_eq_true rfl) ?_
        refine c_X12_isReversed rh_73 rh_86 hG hB ⟨x0, x1⟩ u0 v0 uv (fun hr => ?_) (fun hr => ?_)
        · -- k1
          refine ma_rif_eq 78 dX12_degree_71 rfl (by decide) (fun c71 => absurd c71 (by decide)) (fun c71 => ?_)
          refine ma_lconst (z := 1) dX12_degree_74 rfl ?_
          refine ma_goto 79 dX12_degree_75 rfl ?_
          refine ma_cV [_] dX12_degree_79 wX12_tell lX12_231 iX12_tell sX12_tell rfl (by first | exact rh_73 | exact ((rh_n (by decide)).trans h74) | exact rh_86 | exact rh_87 | exact rh_88) (Nat.le_of_ble_eq_true rfl) ?_
          refine r_tell 1 rfl (by decide) rfl ?_
          refine ma_aload_n dX12_degree_82 rfl ?_
          refine ma_aload_n dX12_degree_83 rfl ?_
          refine ma_getf dX12_degree_84 fX12_9 (by first | exact rh_73 | exact ((rh_n (by decide)).trans h74) | exact rh_86 | exact rh_87 | exact rh_88) (by rfl) ?_
          refine ma_aload_n dX12_degree_87 rfl ?_
          refine ma_iload_n dX12_degree_88 rfl ?_
          refine ma_iload_n dX12_degree_89 rfl ?_
          refine ma_iload_n dX12_degree_90 rfl ?_
          refine ma_cV [_, _, _] dX12_degree_91 wX12_edgeOf lX12_258 iX12_edgeOf sX12_edgeOf rfl (by first | exact rh_73 | exact ((rh_n (by decide)).trans h74) | exact rh_86 | exact rh_87 | exact rh_88) (Nat.le_of_ble_eq_true rfl) ?_
          refine c_X12_edgeOf rh_73 rh_86 hG hB ⟨x0, x1⟩ u0 v0 uv ?_
          refine ma_cV [_, _] dX12_degree_94 wX12_degreeOf lX12_279 iX12_degreeOf sX12_degreeOf rfl (by first | exact rh_73 | exact ((rh_n (by decide)).trans h74) | exact rh_86 | exact rh_87 | exact rh_88) (Nat.le_of_ble_eq_true rfl) ?_
          refine c_X12_degreeOf rh_73 ((rh_n (by decide)).trans h74) hG hA rh_86 rh_87 hB (by unfold rg; omega) ?_
          exact ma_iret dX12_degree_97 rfl (K hc E P F R _ 0 1 hB (Or.inr ⟨rfl, hf⟩) (Or.inl ⟨rfl, hr⟩) ⟨rfl, rfl, fun k a b c => by simp only [iu, if_neg a, if_neg b, if_neg c]⟩)
        · -- k0
          refine ma_rif_eq 78 dX12_degree_71 rfl (by decide) (fun c71 => ?_) (fun c71 => absurd c71 (by decide))
          refine ma_lconst (z := 0) dX12_degree_78 rfl ?_
          refine ma_cV [_] dX12_degree_79 wX12_tell lX12_231 iX12_tell sX12_tell rfl (by first | exact rh_73 | exact ((rh_n (by decide)).trans h74) | exact rh_86 | exact rh_87 | exact rh_88) (Nat.le_of_ble_eq_true rfl) ?_
          refine r_tell 1 rfl (by decide) rfl ?_
          refine ma_aload_n dX12_degree_82 rfl ?_
          refine ma_aload_n dX12_degree_83 rfl ?_
          refine ma_getf dX12_degree_84 fX12_9 (by first | exact rh_73 | exact ((rh_n (by decide)).trans h74) | exact rh_86 | exact rh_87 | exact rh_88) (by rfl) ?_
          refine ma_aload_n dX12_degree_87 rfl ?_
          refine ma_iload_n dX12_degree_88 rfl ?_
          refine ma_iload_n dX12_degree_89 rfl ?_
          refine ma_iload_n dX12_degree_90 rfl ?_
          refine ma_cV [_, _, _] dX12_degree_91 wX12_edgeOf lX12_258 iX12_edgeOf sX12_edgeOf rfl (by first | exact rh_73 | exact ((rh_n (by decide)).trans h74) | exact rh_86 | exact rh_87 | exact rh_88) (Nat.le_of_ble_eq_true rfl) ?_
          refine c_X12_edgeOf rh_73 rh_86 hG hB ⟨x0, x1⟩ u0 v0 uv ?_
          refine ma_cV [_, _] dX12_degree_94 wX12_degreeOf lX12_279 iX12_degreeOf sX12_degreeOf rfl (by first | exact rh_73 | exact ((rh_n (by decide)).trans h74) | exact rh_86 | exact rh_87 | exact rh_88) (Nat.le_of_ble_eq_true rfl) ?_
          refine c_X12_degreeOf rh_73 ((rh_n (by decide)).trans h74) hG hA rh_86 rh_87 hB (by unfold rg; omega) ?_
          exact ma_iret dX12_degree_97 rfl (K hc E P F R _ 0 0 hB (Or.inr ⟨rfl, hf⟩) (Or.inr ⟨rfl, hr⟩) ⟨rfl, rfl, fun k a b c => by simp only [iu, if_neg a, if_neg b, if_neg c]⟩)
    · -- k0
      refine ma_rif_ne 23 dX12_degree_18 rfl (by decide) (fun c18 => absurd c18 (by decide)) (fun c18 => ?_)
      refine ma_iconst dX12_degree_21 ?_
      first | exact ma_iret dX12_degree_22 rfl (K0 (fun z => hx ⟨z.1, z.2.1⟩)) | exact ma_iret dX12_degree_22 rfl (K0 (fun z => huv z.2.2))
  · -- k0
    refine ma_rif_eq 21 dX12_degree_10 rfl (by decide) (fun c10 => ?_) (fun c10 => absurd c10 (by decide))
    refine ma_iconst dX12_degree_21 ?_
    first | exact ma_iret dX12_degree_22 rfl (K0 (fun z => hx ⟨z.1, z.2.1⟩)) | exact ma_iret dX12_degree_22 rfl (K0 (fun z => huv z.2.2))
set_option maxHeartbeats 2000000 in
theorem c_X12_point {h : ma_H} {nx d : Nat} {I : Nat → Int} {t : Int} {G Aa f F0 R0 fi0 : Int → Int} {Q : Option ma_V → ma_H → Nat → Prop} (h74 : h 74 = ci 33 Aa) (hG : VG t G) (hA : AG t G Aa) {x v : Int} (rx : rg x) (rv : rg v) (K0 : ¬ (0 ≤ x ∧ x < t ∧ 0 ≤ v ∧ v < 4) → Q (some (vi (-1))) (rh h (iu I 5 0) f F0 R0 fi0) nx) (K : (0 ≤ x ∧ x < t ∧ 0 ≤ v ∧ v < 4) → ∀ E P F R I' fl, BQ t G E P F R → (fl = 1 ∧ RD t G E P (P (4 * x + v))) ∨ (fl = 0 ∧ ¬ RD t G E P (P (4 * x + v))) → IR I I' 3 → Q (some (vi (zA P (4 * t) (P (4 * x + v))))) (rh h I' (uf (uf (uf f 0 (nA P E (16 * t) (P (4 * x + v)))) 1 (xiA t G E P (P (4 * x + v)))) 2 fl) F R fi0) nx) : ma_Ct mX12_point (d + 7) 0 0 [vr 73, vi x, vi v] (rh h I f F0 R0 fi0) nx Q := by
  have ht := hG.1
  refine ma_Ct.of (by decide +kernel) (Nat.le_of_ble_eq_true rfl) ?_
  refine ma_aload_n dX12_point_0 rfl ?_
  refine ma_iconst dX12_point_1 ?_
  refine ma_puti dX12_point_2 fX12_128 (by first | exact rh_73 | exact ((rh_n (by decide)).trans h74) | exact rh_86 | exact rh_87 | exact rh_88) (Nat.le_of_ble_eq_true rfl) ?_
  rw [mo_5, rh_p]
  refine ma_aload_n dX12_point_5 rfl ?_
  refine ma_iload_n dX12_point_6 rfl ?_
  refine ma_cV [_] dX12_point_7 wX12_isTet lX12_261 iX12_isTet sX12_isTet rfl (by first | exact rh_73 | exact ((rh_n (by decide)).trans h74) | exact rh_86 | exact rh_87 | exact rh_88) (Nat.le_of_ble_eq_true rfl) ?_
  refine c_X12_isTet rh_73 ((rh_n (by decide)).trans h74) ht hA rx (fun x0 x1 => ?_) (fun hx => ?_)
  · -- k1
    refine ma_rif_eq 22 dX12_point_10 rfl (by decide) (fun c10 => absurd c10 (by decide)) (fun c10 => ?_)
    refine ma_iload_n dX12_point_13 rfl ?_
    refine ma_iconst dX12_point_14 ?_
    refine ma_iconst dX12_point_15 ?_
    refine ma_cS [_, _, _] dX12_point_16 wX12_in lX12_179 tX12_in (Nat.le_of_ble_eq_true rfl) ?_
    refine c_X12_in rv (by unfold rg; decide) (by unfold rg; decide) (fun v0 v1 => ?_) (fun hv => ?_)
    · -- k1
      refine ma_rif_ne 24 dX12_point_19 rfl (by decide) (fun c19 => ?_) (fun c19 => absurd c19 (by decide))
      refine ma_aload_n dX12_point_24 rfl ?_
      refine ma_aload_n dX12_point_25 rfl ?_
      refine ma_getf dX12_point_26 fX12_9 (by first | exact rh_73 | exact ((rh_n (by decide)).trans h74) | exact rh_86 | exact rh_87 | exact rh_88) (by rfl) ?_
      refine ma_cV [_] dX12_point_29 wX12_layJoined lX12_269 iX12_layJoined sX12_layJoined rfl (by first | exact rh_73 | exact ((rh_n (by decide)).trans h74) | exact rh_86 | exact rh_87 | exact rh_88) (Nat.le_of_ble_eq_true rfl) ?_
      refine r_lj h74 hG hA (fun E P F R hB => ?_)
      have b4 := ct_in (qP P) (4 * t).toNat
      have b5 := ct_in (cP E) (16 * t).toNat
      have bc := br_b (E := E) (P := P) (G := G) ht
      have hc : (0 ≤ x ∧ x < t ∧ 0 ≤ v ∧ v < 4) := ⟨x0, x1, v0, by omega⟩
      have ox : oC t (4 * x + v) := ⟨by omega, by omega⟩
      have g0 := (hB.1.2.2.1.1 (4 * x + v) ox).1
      have g1 := bp_P hB.1 (4 * x + v) (by omega) (by omega)
      have bx := bc.2 (P (4 * x + v)) (by omega) (by omega)
      have xb : -1000 ≤ xiA t G E P (P (4 * x + v)) ∧ xiA t G E P (P (4 * x + v)) ≤ 1000 := by
        show -1000 ≤ xi (zA P (4 * t)) (nA P E (16 * t)) (sA P G (16 * t)) (P (4 * x + v)) ∧ xi (zA P (4 * t)) (nA P E (16 * t)) (sA P G (16 * t)) (P (4 * x + v)) ≤ 1000
        unfold xi
        omega
      refine ma_aload_n dX12_point_32 rfl ?_
      refine ma_getf dX12_point_33 fX12_51 (by first | exact rh_73 | exact ((rh_n (by decide)).trans h74) | exact rh_86 | exact rh_87 | exact rh_88) (by rfl) ?_
      refine ma_iconst dX12_point_36 ?_
      refine ma_iload_n dX12_point_37 rfl ?_
      refine ma_imul dX12_point_38 ?_
      refine ma_iload_n dX12_point_39 rfl ?_
      refine ma_iadd dX12_point_40 ?_
      refine ma_iald dX12_point_41 (by first | exact rh_73 | exact ((rh_n (by decide)).trans h74) | exact rh_86 | exact rh_87 | exact rh_88) (by omega) (by omega) (by omega) ?_
      rw [hB.2.2 (4 * x + v) ox]
      refine ma_istore_nN dX12_point_42 (by decide) rfl ?_
      refine ma_aload_n dX12_point_43 rfl ?_
      refine ma_iconst dX12_point_44 ?_
      refine ma_puti dX12_point_45 fX12_132 (by first | exact rh_73 | exact ((rh_n (by decide)).trans h74) | exact rh_86 | exact rh_87 | exact rh_88) (Nat.le_of_ble_eq_true rfl) ?_
      rw [mo_4, rh_p]
      refine ma_aload_n dX12_point_48 rfl ?_
      refine ma_aload_n dX12_point_49 rfl ?_
      refine ma_aload_n dX12_point_50 rfl ?_
      refine ma_getf dX12_point_51 fX12_9 (by first | exact rh_73 | exact ((rh_n (by decide)).trans h74) | exact rh_86 | exact rh_87 | exact rh_88) (by rfl) ?_
      refine ma_iload_n dX12_point_54 rfl ?_
      refine ma_cV [_, _] dX12_point_55 wX12_endsOf lX12_282 iX12_endsOf sX12_endsOf rfl (by first | exact rh_73 | exact ((rh_n (by decide)).trans h74) | exact rh_86 | exact rh_87 | exact rh_88) (Nat.le_of_ble_eq_true rfl) ?_
      refine c_X12_endsOf rh_73 ((rh_n (by decide)).trans h74) hG hA rh_86 rh_87 hB (by unfold rg; omega) ?_
      refine ma_i2l dX12_point_58 ?_
      refine ma_cV [_] dX12_point_59 wX12_tell lX12_231 iX12_tell sX12_tell rfl (by first | exact rh_73 | exact ((rh_n (by decide)).trans h74) | exact rh_86 | exact rh_87 | exact rh_88) (Nat.le_of_ble_eq_true rfl) ?_
      refine r_tell 0 rfl (by decide) (iw_of (by omega) (by omega)) ?_
      refine ma_aload_n dX12_point_62 rfl ?_
      refine ma_aload_n dX12_point_63 rfl ?_
      refine ma_aload_n dX12_point_64 rfl ?_
      refine ma_getf dX12_point_65 fX12_9 (by first | exact rh_73 | exact ((rh_n (by decide)).trans h74) | exact rh_86 | exact rh_87 | exact rh_88) (by rfl) ?_
      refine ma_iload_n dX12_point_68 rfl ?_
      refine ma_cV [_, _] dX12_point_69 wX12_chiOf lX12_291 iX12_chiOf sX12_chiOf rfl (by first | exact rh_73 | exact ((rh_n (by decide)).trans h74) | exact rh_86 | exact rh_87 | exact rh_88) (Nat.le_of_ble_eq_true rfl) ?_
      refine c_X12_chiOf rh_73 ((rh_n (by decide)).trans h74) hG hA rh_86 rh_87 hB (by unfold rg; omega) ?_
      refine ma_i2l dX12_point_72 ?_
      refine ma_cV [_] dX12_point_73 wX12_tell lX12_231 iX12_tell sX12_tell rfl (by first | exact rh_73 | exact ((rh_n (by decide)).trans h74) | exact rh_86 | exact rh_87 | exact rh_88) (Nat.le_of_ble_eq_true rfl) ?_
      refine r_tell 1 rfl (by decide) (iw_of (by omega) (by omega)) ?_
      refine ma_aload_n dX12_point_76 rfl ?_
      refine ma_aload_n dX12_point_77 rfl ?_
      refine ma_aload_n dX12_point_78 rfl ?_
      refine ma_getf dX12_point_79 fX12_9 (by first | exact rh_73 | exact ((rh_n (by decide)).trans h74) | exact rh_86 | exact rh_87 | exact rh_88) (by rfl) ?_
      refine ma_iload_n dX12_point_82 rfl ?_
      refine ma_cV [_, _] dX12_point_83 wX12_isRound lX12_297 iX12_isRound sX12_isRound rfl (by first | exact rh_73 | exact ((rh_n (by decide)).trans h74) | exact rh_86 | exact rh_87 | exact rh_88) (Nat.le_of_ble_eq_true rfl) ?_
      refine c_X12_isRound rh_73 ((rh_n (by decide)).trans h74) hG hA rh_86 rh_87 hB (by unfold rg; omega) (fun hr => ?_) (fun hr => ?_)
      · -- k1
        refine ma_rif_eq 93 dX12_point_86 rfl (by decide) (fun c86 => absurd c86 (by decide)) (fun c86 => ?_)
        refine ma_lconst (z := 1) dX12_point_89 rfl ?_
        refine ma_goto 94 dX12_point_90 rfl ?_
        refine ma_cV [_] dX12_point_94 wX12_tell lX12_231 iX12_tell sX12_tell rfl (by first | exact rh_73 | exact ((rh_n (by decide)).trans h74) | exact rh_86 | exact rh_87 | exact rh_88) (Nat.le_of_ble_eq_true rfl) ?_
        refine r_tell 2 rfl (by decide) rfl ?_
        refine ma_aload_n dX12_point_97 rfl ?_
        refine ma_aload_n dX12_point_98 rfl ?_
        refine ma_getf dX12_point_99 fX12_9 (by first | exact rh_73 | exact ((rh_n (by decide)).trans h74) | exact rh_86 | exact rh_87 | exact rh_88) (by rfl) ?_
        refine ma_iload_n dX12_point_102 rfl ?_
        refine ma_cV [_, _] dX12_point_103 wX12_sizeOf lX12_288 iX12_sizeOf sX12_sizeOf rfl (by first | exact rh_73 | exact ((rh_n (by decide)).trans h74) | exact rh_86 | exact rh_87 | exact rh_88) (Nat.le_of_ble_eq_true rfl) ?_
        refine c_X12_sizeOf rh_73 ((rh_n (by decide)).trans h74) hG hA rh_86 rh_87 hB (by unfold rg; omega) ?_
        exact ma_iret dX12_point_106 rfl (K hc E P F R _ 1 hB (Or.inl ⟨rfl, hr⟩) ⟨rfl, rfl, fun k a b c => by simp only [iu, if_neg a, if_neg b, if_neg c]⟩)
      · -- k0
        refine ma_rif_eq 93 dX12_point_86 rfl (by decide) (fun c86 => ?_) (fun c86 => absurd c86 (by decide))
        refine ma_lconst (z := 0) dX12_point_93 rfl ?_
        refine ma_cV [_] dX12_point_94 wX12_tell lX12_231 iX12_tell sX12_tell rfl (by first | exact rh_73 | exact ((rh_n (by decide)).trans h74) | exact rh_86 | exact rh_87 | exact rh_88) (Nat.le_of_ble_eq_true rfl) ?_
        refine r_tell 2 rfl (by decide) rfl ?_
        refine ma_aload_n dX12_point_97 rfl ?_
        refine ma_aload_n dX12_point_98 rfl ?_
        refine ma_getf dX12_point_99 fX12_9 (by first | exact rh_73 | exact ((rh_n (by decide)).trans h74) | exact rh_86 | exact rh_87 | exact rh_88) (by rfl) ?_
        refine ma_iload_n dX12_point_102 rfl ?_
        refine ma_cV [_, _] dX12_point_103 wX12_sizeOf lX12_288 iX12_sizeOf sX12_sizeOf rfl (by first | exact rh_73 | exact ((rh_n (by decide)).trans h74) | exact rh_86 | exact rh_87 | exact rh_88) (Nat.le_of_ble_eq_true rfl) ?_
        refine c_X12_sizeOf rh_73 ((rh_n (by decide)).trans h74) hG hA rh_86 rh_87 hB (by unfold rg; omega) ?_
        exact ma_iret dX12_point_106 rfl (K hc E P F R _ 0 hB (Or.inr ⟨rfl, hr⟩) ⟨rfl, rfl, fun k a b c => by simp only [iu, if_neg a, if_neg b, if_neg c]⟩)
    · -- k0
      refine ma_rif_ne 24 dX12_point_19 rfl (by decide) (fun c19 => absurd c19 (by decide)) (fun c19 => ?_)
      refine ma_iconst dX12_point_22 ?_
      first | exact ma_iret dX12_point_23 rfl (K0 (fun z => hx ⟨z.1, z.2.1⟩)) | exact ma_iret dX12_point_23 rfl (K0 (fun z => hv ⟨z.2.2.1, by omega⟩))
  · -- k0
    refine ma_rif_eq 22 dX12_point_10 rfl (by decide) (fun c10 => ?_) (fun c10 => absurd c10 (by decide))
    refine ma_iconst dX12_point_22 ?_
    first | exact ma_iret dX12_point_23 rfl (K0 (fun z => hx ⟨z.1, z.2.1⟩)) | exact ma_iret dX12_point_23 rfl (K0 (fun z => hv ⟨z.2.2.1, by omega⟩))
set_option maxHeartbeats 2000000 in
theorem c_X12_manifold {h : ma_H} {nx d : Nat} {I : Nat → Int} {t : Int} {G Aa f F0 R0 fi0 : Int → Int} {Q : Option ma_V → ma_H → Nat → Prop} (h74 : h 74 = ci 33 Aa) (hG : VG t G) (hA : AG t G Aa)  (K : ∀ E P F R fi I' fl, BQ t G E P F R → (fl = 1 ∧ MF t G E P) ∨ (fl = 0 ∧ ¬ MF t G E P) → IR I I' 3 → Q (some (vi fl)) (rh h I' (uf (uf (uf f 0 (ct (fun j => G j < 0) (4 * t).toNat)) 1 (ct (fun x => cP E x ∧ E x = E (tr x)) (16 * t).toNat)) 2 (ct (qP P) (4 * t).toNat - ct (fun c => P c = c ∧ RD t G E P c) (4 * t).toNat)) F R fi) nx) : ma_Ct mX12_manifold (d + 7) 0 0 [vr 73] (rh h I f F0 R0 fi0) nx Q := by
  have ht := hG.1
  refine ma_Ct.of (by decide +kernel) (Nat.le_of_ble_eq_true rfl) ?_
  refine ma_aload_n dX12_manifold_0 rfl ?_
  refine ma_iconst dX12_manifold_1 ?_
  refine ma_puti dX12_manifold_2 fX12_128 (by first | exact rh_73 | exact ((rh_n (by decide)).trans h74) | exact rh_86 | exact rh_87 | exact rh_88) (Nat.le_of_ble_eq_true rfl) ?_
  rw [mo_5, rh_p]
  refine ma_aload_n dX12_manifold_5 rfl ?_
  refine ma_aload_n dX12_manifold_6 rfl ?_
  refine ma_getf dX12_manifold_7 fX12_9 (by first | exact rh_73 | exact ((rh_n (by decide)).trans h74) | exact rh_86 | exact rh_87 | exact rh_88) (by rfl) ?_
  refine ma_cV [_] dX12_manifold_10 wX12_isManifold lX12_325 iX12_isManifold sX12_isManifold rfl (by first | exact rh_73 | exact ((rh_n (by decide)).trans h74) | exact rh_86 | exact rh_87 | exact rh_88) (Nat.le_of_ble_eq_true rfl) ?_
  refine c_X12_isManifold rh_73 ((rh_n (by decide)).trans h74) (by decide) hG hA rh_86 rh_87 rh_88 (fun E P F R fi n hB n0 hF hmf => ?_) (fun E P F R fi n hB n0 hF hmf => ?_)
  all_goals rw [rh_j, rh_e]
  all_goals have b4 := ct_in (qP P) (4 * t).toNat
  · -- k1
    refine ma_istore_nN dX12_manifold_13 (by decide) rfl ?_
    refine ma_aload_n dX12_manifold_14 rfl ?_
    refine ma_iconst dX12_manifold_15 ?_
    refine ma_puti dX12_manifold_16 fX12_132 (by first | exact rh_73 | exact ((rh_n (by decide)).trans h74) | exact rh_86 | exact rh_87 | exact rh_88) (Nat.le_of_ble_eq_true rfl) ?_
    rw [mo_4, rh_p]
    refine ma_aload_n dX12_manifold_19 rfl ?_
    refine ma_aload_n dX12_manifold_20 rfl ?_
    refine ma_getf dX12_manifold_21 fX12_9 (by first | exact rh_73 | exact ((rh_n (by decide)).trans h74) | exact rh_86 | exact rh_87 | exact rh_88) (by rfl) ?_
    refine ma_cS [_] dX12_manifold_24 wX12_freeMany lX12_235 tX12_freeMany (Nat.le_of_ble_eq_true rfl) ?_
    refine c_X12_freeMany ((rh_n (by decide)).trans h74) hG hA ?_
    have b1 := ct_in (fun j => G j < 0) (4 * t).toNat
    refine ma_i2l dX12_manifold_27 ?_
    refine ma_cV [_] dX12_manifold_28 wX12_tell lX12_231 iX12_tell sX12_tell rfl (by first | exact rh_73 | exact ((rh_n (by decide)).trans h74) | exact rh_86 | exact rh_87 | exact rh_88) (Nat.le_of_ble_eq_true rfl) ?_
    refine r_tell 0 rfl (by decide) (iw_of (by omega) (by omega)) ?_
    refine ma_aload_n dX12_manifold_31 rfl ?_
    refine ma_aload_n dX12_manifold_32 rfl ?_
    refine ma_cV [] dX12_manifold_33 wX12_reversedMany lX12_313 iX12_reversedMany sX12_reversedMany rfl (by first | exact rh_73 | exact ((rh_n (by decide)).trans h74) | exact rh_86 | exact rh_87 | exact rh_88) (Nat.le_of_ble_eq_true rfl) ?_
    refine c_X12_reversedMany rh_73 rh_86 rh_88 hG hB rfl n0 hF ?_
    have b2 := ct_in (fun x => cP E x ∧ E x = E (tr x)) (16 * t).toNat
    refine ma_i2l dX12_manifold_36 ?_
    refine ma_cV [_] dX12_manifold_37 wX12_tell lX12_231 iX12_tell sX12_tell rfl (by first | exact rh_73 | exact ((rh_n (by decide)).trans h74) | exact rh_86 | exact rh_87 | exact rh_88) (Nat.le_of_ble_eq_true rfl) ?_
    refine r_tell 1 rfl (by decide) (iw_of (by omega) (by omega)) ?_
    refine ma_aload_n dX12_manifold_40 rfl ?_
    refine ma_aload_n dX12_manifold_41 rfl ?_
    refine ma_aload_n dX12_manifold_42 rfl ?_
    refine ma_getf dX12_manifold_43 fX12_9 (by first | exact rh_73 | exact ((rh_n (by decide)).trans h74) | exact rh_86 | exact rh_87 | exact rh_88) (by rfl) ?_
    refine ma_cV [_] dX12_manifold_46 wX12_pointMany lX12_322 iX12_pointMany sX12_pointMany rfl (by first | exact rh_73 | exact ((rh_n (by decide)).trans h74) | exact rh_86 | exact rh_87 | exact rh_88) (Nat.le_of_ble_eq_true rfl) ?_
    refine c_X12_pointMany rh_73 ((rh_n (by decide)).trans h74) hG hA rh_86 rh_87 hB ?_
    refine ma_aload_n dX12_manifold_49 rfl ?_
    refine ma_aload_n dX12_manifold_50 rfl ?_
    refine ma_getf dX12_manifold_51 fX12_9 (by first | exact rh_73 | exact ((rh_n (by decide)).trans h74) | exact rh_86 | exact rh_87 | exact rh_88) (by rfl) ?_
    refine ma_cV [_] dX12_manifold_54 wX12_roundMany lX12_319 iX12_roundMany sX12_roundMany rfl (by first | exact rh_73 | exact ((rh_n (by decide)).trans h74) | exact rh_86 | exact rh_87 | exact rh_88) (Nat.le_of_ble_eq_true rfl) ?_
    refine c_X12_roundMany rh_73 ((rh_n (by decide)).trans h74) hG hA rh_86 rh_87 hB ?_
    have b3 := ct_in (fun c => P c = c ∧ RD t G E P c) (4 * t).toNat
    refine ma_isub dX12_manifold_57 ?_
    refine ma_i2l dX12_manifold_58 ?_
    refine ma_cV [_] dX12_manifold_59 wX12_tell lX12_231 iX12_tell sX12_tell rfl (by first | exact rh_73 | exact ((rh_n (by decide)).trans h74) | exact rh_86 | exact rh_87 | exact rh_88) (Nat.le_of_ble_eq_true rfl) ?_
    refine r_tell 2 rfl (by decide) (iw_of (by omega) (by omega)) ?_
    refine ma_iload_n dX12_manifold_62 rfl ?_
    refine ma_rif_eq 70 dX12_manifold_63 rfl (by decide) (fun c63 => absurd c63 (by decide)) (fun c63 => ?_)
    refine ma_iconst dX12_manifold_66 ?_
    refine ma_goto 71 dX12_manifold_67 rfl ?_
    exact ma_iret dX12_manifold_71 rfl (K E P F R fi _ 1 hB (Or.inl ⟨rfl, hmf⟩) ⟨rfl, rfl, fun k a b c => by simp only [iu, if_neg a, if_neg b, if_neg c]⟩)
  · -- k0
    refine ma_istore_nN dX12_manifold_13 (by decide) rfl ?_
    refine ma_aload_n dX12_manifold_14 rfl ?_
    refine ma_iconst dX12_manifold_15 ?_
    refine ma_puti dX12_manifold_16 fX12_132 (by first | exact rh_73 | exact ((rh_n (by decide)).trans h74) | exact rh_86 | exact rh_87 | exact rh_88) (Nat.le_of_ble_eq_true rfl) ?_
    rw [mo_4, rh_p]
    refine ma_aload_n dX12_manifold_19 rfl ?_
    refine ma_aload_n dX12_manifold_20 rfl ?_
    refine ma_getf dX12_manifold_21 fX12_9 (by first | exact rh_73 | exact ((rh_n (by decide)).trans h74) | exact rh_86 | exact rh_87 | exact rh_88) (by rfl) ?_
    refine ma_cS [_] dX12_manifold_24 wX12_freeMany lX12_235 tX12_freeMany (Nat.le_of_ble_eq_true rfl) ?_
    refine c_X12_freeMany ((rh_n (by decide)).trans h74) hG hA ?_
    have b1 := ct_in (fun j => G j < 0) (4 * t).toNat
    refine ma_i2l dX12_manifold_27 ?_
    refine ma_cV [_] dX12_manifold_28 wX12_tell lX12_231 iX12_tell sX12_tell rfl (by first | exact rh_73 | exact ((rh_n (by decide)).trans h74) | exact rh_86 | exact rh_87 | exact rh_88) (Nat.le_of_ble_eq_true rfl) ?_
    refine r_tell 0 rfl (by decide) (iw_of (by omega) (by omega)) ?_
    refine ma_aload_n dX12_manifold_31 rfl ?_
    refine ma_aload_n dX12_manifold_32 rfl ?_
    refine ma_cV [] dX12_manifold_33 wX12_reversedMany lX12_313 iX12_reversedMany sX12_reversedMany rfl (by first | exact rh_73 | exact ((rh_n (by decide)).trans h74) | exact rh_86 | exact rh_87 | exact rh_88) (Nat.le_of_ble_eq_true rfl) ?_
    refine c_X12_reversedMany rh_73 rh_86 rh_88 hG hB rfl n0 hF ?_
    have b2 := ct_in (fun x => cP E x ∧ E x = E (tr x)) (16 * t).toNat
    refine ma_i2l dX12_manifold_36 ?_
    refine ma_cV [_] dX12_manifold_37 wX12_tell lX12_231 iX12_tell sX12_tell rfl (by first | exact rh_73 | exact ((rh_n (by decide)).trans h74) | exact rh_86 | exact rh_87 | exact rh_88) (Nat.le_of_ble_eq_true rfl) ?_
    refine r_tell 1 rfl (by decide) (iw_of (by omega) (by omega)) ?_
    refine ma_aload_n dX12_manifold_40 rfl ?_
    refine ma_aload_n dX12_manifold_41 rfl ?_
    refine ma_aload_n dX12_manifold_42 rfl ?_
    refine ma_getf dX12_manifold_43 fX12_9 (by first | exact rh_73 | exact ((rh_n (by decide)).trans h74) | exact rh_86 | exact rh_87 | exact rh_88) (by rfl) ?_
    refine ma_cV [_] dX12_manifold_46 wX12_pointMany lX12_322 iX12_pointMany sX12_pointMany rfl (by first | exact rh_73 | exact ((rh_n (by decide)).trans h74) | exact rh_86 | exact rh_87 | exact rh_88) (Nat.le_of_ble_eq_true rfl) ?_
    refine c_X12_pointMany rh_73 ((rh_n (by decide)).trans h74) hG hA rh_86 rh_87 hB ?_
    refine ma_aload_n dX12_manifold_49 rfl ?_
    refine ma_aload_n dX12_manifold_50 rfl ?_
    refine ma_getf dX12_manifold_51 fX12_9 (by first | exact rh_73 | exact ((rh_n (by decide)).trans h74) | exact rh_86 | exact rh_87 | exact rh_88) (by rfl) ?_
    refine ma_cV [_] dX12_manifold_54 wX12_roundMany lX12_319 iX12_roundMany sX12_roundMany rfl (by first | exact rh_73 | exact ((rh_n (by decide)).trans h74) | exact rh_86 | exact rh_87 | exact rh_88) (Nat.le_of_ble_eq_true rfl) ?_
    refine c_X12_roundMany rh_73 ((rh_n (by decide)).trans h74) hG hA rh_86 rh_87 hB ?_
    have b3 := ct_in (fun c => P c = c ∧ RD t G E P c) (4 * t).toNat
    refine ma_isub dX12_manifold_57 ?_
    refine ma_i2l dX12_manifold_58 ?_
    refine ma_cV [_] dX12_manifold_59 wX12_tell lX12_231 iX12_tell sX12_tell rfl (by first | exact rh_73 | exact ((rh_n (by decide)).trans h74) | exact rh_86 | exact rh_87 | exact rh_88) (Nat.le_of_ble_eq_true rfl) ?_
    refine r_tell 2 rfl (by decide) (iw_of (by omega) (by omega)) ?_
    refine ma_iload_n dX12_manifold_62 rfl ?_
    refine ma_rif_eq 70 dX12_manifold_63 rfl (by decide) (fun c63 => ?_) (fun c63 => absurd c63 (by decide))
    refine ma_iconst dX12_manifold_70 ?_
    exact ma_iret dX12_manifold_71 rfl (K E P F R fi _ 0 hB (Or.inr ⟨rfl, hmf⟩) ⟨rfl, rfl, fun k a b c => by simp only [iu, if_neg a, if_neg b, if_neg c]⟩)
