theorem dgk {tt u v : Int} (u0 : 0 ≤ u ∧ u < 4) (v0 : 0 ≤ v ∧ v < 4) : (16 * tt + 4 * u + v) / 4 = 4 * tt + u ∧ (16 * tt + 4 * u + v) % 4 = v ∧ (16 * tt + 4 * u + v) / 16 = tt ∧ (16 * tt + 4 * u + v) / 4 % 4 = u := by omega
theorem tr_m {t u v : Int} (u0 : 0 ≤ u ∧ u < 4) (v0 : 0 ≤ v ∧ v < 4) : tr (16 * t + 4 * u + v) = 16 * t + 4 * v + u := by
  unfold tr
  omega
theorem bq_E {t : Int} {G E P F R : Int → Int} (hB : BQ t G E P F R) {tt u v : Int} (t0 : 0 ≤ tt ∧ tt < t) (u0 : 0 ≤ u ∧ u < 4) (v0 : 0 ≤ v ∧ v < 4) (uv : u ≠ v) : oE t (16 * tt + 4 * u + v) ∧ F (16 * tt + 4 * u + v) = E (16 * tt + 4 * u + v) ∧ 0 ≤ E (16 * tt + 4 * u + v) ∧ E (16 * tt + 4 * u + v) ≤ 16 * tt + 4 * u + v := by
  have e2 : (16 * tt + 4 * u + v) / 4 % 4 = u := by omega
  have e3 : (16 * tt + 4 * u + v) % 4 = v := by omega
  have hx : oE t (16 * tt + 4 * u + v) := ⟨by omega, by omega, by rw [e2, e3]; exact uv⟩
  have := hB.1.1.1 _ hx
  exact ⟨hx, hB.2.1 _ hx, this.1, this.2.1⟩
theorem bq_P {t : Int} {G E P F R : Int → Int} (hB : BQ t G E P F R) {c : Int} (c0 : 0 ≤ c) (c1 : c < 4 * t) : R c = P c ∧ 0 ≤ P c ∧ P c ≤ c := by
  have hx : oC t c := ⟨c0, c1⟩
  have := hB.1.2.2.1.1 _ hx
  exact ⟨hB.2.2 _ hx, this.1, this.2.1⟩
theorem ct_sk {P : Int → Prop} {a : Int} (a0 : 0 ≤ a) : ∀ n : Nat, (∀ q, a ≤ q → q < a + n → ¬ P q) → ct P (a + n).toNat = ct P a.toNat
  | 0, _ => by rw [show a + ((0 : Nat) : Int) = a by omega]
  | n + 1, h => by
    rw [show a + ((n + 1 : Nat) : Int) = a + n + 1 by omega, ct_n (by omega) (h _ (by omega) (by omega)), ct_sk a0 n (fun q q0 q1 => h q q0 (by omega))]
theorem ct_sk2 {P : Int → Prop} {a b : Int} (a0 : 0 ≤ a) (ab : a ≤ b) (h : ∀ q, a ≤ q → q < b → ¬ P q) : ct P b.toNat = ct P a.toNat := by
  have := ct_sk (P := P) a0 (b - a).toNat (fun q q0 q1 => h q q0 (by omega))
  rw [show a + ((b - a).toNat : Int) = b by omega] at this
  exact this
theorem c_X12_edgeOf {h : ma_H} {nx d : Nat} {t tt u v : Int} {G E P F R : Int → Int} {Q : Option ma_V → ma_H → Nat → Prop} {I : Nat → Int} (hM : h 73 = co 12 (mo I)) (h86 : h 86 = ci 128 F) (hG : VG t G) (hB : BQ t G E P F R) (t0 : 0 ≤ tt ∧ tt < t) (u0 : 0 ≤ u ∧ u < 4) (v0 : 0 ≤ v ∧ v < 4) (uv : u ≠ v) (K : Q (some (vi (eg E (16 * tt + 4 * u + v)))) h nx) : ma_Ct mX12_edgeOf (d + 1) 0 0 [vr 73, vi tt, vi u, vi v] h nx Q := by
  have ht := hG.1
  obtain ⟨o1, f1, r1, r2⟩ := bq_E hB t0 u0 v0 uv
  obtain ⟨o2, f2, r3, r4⟩ := bq_E hB t0 v0 u0 (Ne.symm uv)
  unfold eg at K
  rw [tr_m u0 v0] at K
  refine ma_Ct.of (by decide +kernel) (Nat.le_of_ble_eq_true rfl) ?_
  refine ma_aload_n dX12_edgeOf_0 rfl ?_
  refine ma_getf dX12_edgeOf_1 fX12_48 (by assumption) (by rfl) ?_
  refine ma_iload_n dX12_edgeOf_4 rfl ?_
  refine ma_iload_n dX12_edgeOf_5 rfl ?_
  refine ma_iload_n dX12_edgeOf_6 rfl ?_
  refine ma_cS [_, _, _] dX12_edgeOf_7 wX12_endAt lX12_255 tX12_endAt (Nat.le_of_ble_eq_true rfl) ?_
  refine c_X12_endAt ?_
  refine ma_iald dX12_edgeOf_10 (by assumption) (by omega) (by omega) (by omega) ?_
  rw [f1]
  refine ma_aload_n dX12_edgeOf_11 rfl ?_
  refine ma_getf dX12_edgeOf_12 fX12_48 (by assumption) (by rfl) ?_
  refine ma_iload_n dX12_edgeOf_15 rfl ?_
  refine ma_iload_n dX12_edgeOf_16 rfl ?_
  refine ma_iload_n dX12_edgeOf_17 rfl ?_
  refine ma_cS [_, _, _] dX12_edgeOf_18 wX12_endAt lX12_255 tX12_endAt (Nat.le_of_ble_eq_true rfl) ?_
  refine c_X12_endAt ?_
  refine ma_iald dX12_edgeOf_21 (by assumption) (by omega) (by omega) (by omega) ?_
  rw [f2]
  refine ma_cS [_, _] dX12_edgeOf_22 wJ9_min_7cf53 lX12_248 tJ9_min_7cf53 (Nat.le_of_ble_eq_true rfl) ?_
  refine c_J9_min_7cf53 (by constructor <;> omega) (by constructor <;> omega) ?_
  exact ma_iret dX12_edgeOf_25 rfl K
theorem c_X12_isReversed {h : ma_H} {nx d : Nat} {t tt u v : Int} {G E P F R : Int → Int} {Q : Option ma_V → ma_H → Nat → Prop} {I : Nat → Int} (hM : h 73 = co 12 (mo I)) (h86 : h 86 = ci 128 F) (hG : VG t G) (hB : BQ t G E P F R) (t0 : 0 ≤ tt ∧ tt < t) (u0 : 0 ≤ u ∧ u < 4) (v0 : 0 ≤ v ∧ v < 4) (uv : u ≠ v) (K1 : E (16 * tt + 4 * u + v) = E (tr (16 * tt + 4 * u + v)) → Q (some (vi 1)) h nx) (K0 : E (16 * tt + 4 * u + v) ≠ E (tr (16 * tt + 4 * u + v)) → Q (some (vi 0)) h nx) : ma_Ct mX12_isReversed (d + 1) 0 0 [vr 73, vi tt, vi u, vi v] h nx Q := by
  have ht := hG.1
  obtain ⟨o1, f1, r1, r2⟩ := bq_E hB t0 u0 v0 uv
  obtain ⟨o2, f2, r3, r4⟩ := bq_E hB t0 v0 u0 (Ne.symm uv)
  rw [tr_m u0 v0] at K1 K0
  refine ma_Ct.of (by decide +kernel) (Nat.le_of_ble_eq_true rfl) ?_
  refine ma_aload_n dX12_isReversed_0 rfl ?_
  refine ma_getf dX12_isReversed_1 fX12_48 (by assumption) (by rfl) ?_
  refine ma_iload_n dX12_isReversed_4 rfl ?_
  refine ma_iload_n dX12_isReversed_5 rfl ?_
  refine ma_iload_n dX12_isReversed_6 rfl ?_
  refine ma_cS [_, _, _] dX12_isReversed_7 wX12_endAt lX12_255 tX12_endAt (Nat.le_of_ble_eq_true rfl) ?_
  refine c_X12_endAt ?_
  refine ma_iald dX12_isReversed_10 (by assumption) (by omega) (by omega) (by omega) ?_
  rw [f1]
  refine ma_aload_n dX12_isReversed_11 rfl ?_
  refine ma_getf dX12_isReversed_12 fX12_48 (by assumption) (by rfl) ?_
  refine ma_iload_n dX12_isReversed_15 rfl ?_
  refine ma_iload_n dX12_isReversed_16 rfl ?_
  refine ma_iload_n dX12_isReversed_17 rfl ?_
  refine ma_cS [_, _, _] dX12_isReversed_18 wX12_endAt lX12_255 tX12_endAt (Nat.le_of_ble_eq_true rfl) ?_
  refine c_X12_endAt ?_
  refine ma_iald dX12_isReversed_21 (by assumption) (by omega) (by omega) (by omega) ?_
  rw [f2]
  refine ma_rcmp_ne 29 dX12_isReversed_22 rfl (by constructor <;> omega) (by constructor <;> omega) (fun c22 => ?_) (fun c22 => ?_)
  · -- 29
    refine ma_iconst dX12_isReversed_29 ?_
    exact ma_zret dX12_isReversed_30 rfl (Or.inl rfl) (K0 c22)
  · -- 25
    refine ma_iconst dX12_isReversed_25 ?_
    refine ma_goto 30 dX12_isReversed_26 rfl ?_
    exact ma_zret dX12_isReversed_30 rfl (Or.inr rfl) (K1 (by omega))
theorem c_X12_arePair {h : ma_H} {nx d : Nat} {u v : Int} {Q : Option ma_V → ma_H → Nat → Prop} (hu : rg u) (hv : rg v) (K1 : 0 ≤ u ∧ u < 4 → 0 ≤ v ∧ v < 4 → u ≠ v → Q (some (vi 1)) h nx) (K0 : ¬ (0 ≤ u ∧ u < 4 ∧ 0 ≤ v ∧ v < 4 ∧ u ≠ v) → Q (some (vi 0)) h nx) : ma_Ct mX12_arePair (d + 1) 0 0 [vi u, vi v] h nx Q := by
  have hu' := hu
  have hv' := hv
  unfold rg at hu' hv'
  refine ma_Ct.of (by decide +kernel) (Nat.le_of_ble_eq_true rfl) ?_
  refine ma_iload_n dX12_arePair_0 rfl ?_
  refine ma_iconst dX12_arePair_1 ?_
  refine ma_iconst dX12_arePair_2 ?_
  refine ma_cS [_, _, _] dX12_arePair_3 wX12_in lX12_179 tX12_in (Nat.le_of_ble_eq_true rfl) ?_
  refine c_X12_in hu (by unfold rg; omega) (by unfold rg; omega) (fun a1 a2 => ?_) (fun a1 => ?_)
  · -- k1
    refine ma_rif_eq 27 dX12_arePair_6 rfl (by decide) (fun c6 => absurd c6 (by decide)) (fun c6 => ?_)
    refine ma_iload_n dX12_arePair_9 rfl ?_
    refine ma_iconst dX12_arePair_10 ?_
    refine ma_iconst dX12_arePair_11 ?_
    refine ma_cS [_, _, _] dX12_arePair_12 wX12_in lX12_179 tX12_in (Nat.le_of_ble_eq_true rfl) ?_
    refine c_X12_in hv (by unfold rg; omega) (by unfold rg; omega) (fun b1 b2 => ?_) (fun b1 => ?_)
    · -- k1
      refine ma_rif_eq 27 dX12_arePair_15 rfl (by decide) (fun c15 => absurd c15 (by decide)) (fun c15 => ?_)
      refine ma_iload_n dX12_arePair_18 rfl ?_
      refine ma_iload_n dX12_arePair_19 rfl ?_
      refine ma_rcmp_eq 27 dX12_arePair_20 rfl (by constructor <;> omega) (by constructor <;> omega) (fun c20 => ?_) (fun c20 => ?_)
      · -- 27
        refine ma_iconst dX12_arePair_27 ?_
        first | exact ma_zret dX12_arePair_28 rfl (Or.inr rfl) (K1 (by omega) (by omega) (by omega)) | exact ma_zret dX12_arePair_28 rfl (Or.inl rfl) (K0 (by omega))
      · -- 23
        refine ma_iconst dX12_arePair_23 ?_
        refine ma_goto 28 dX12_arePair_24 rfl ?_
        first | exact ma_zret dX12_arePair_28 rfl (Or.inr rfl) (K1 (by omega) (by omega) (by omega)) | exact ma_zret dX12_arePair_28 rfl (Or.inl rfl) (K0 (by omega))
    · -- k0
      refine ma_rif_eq 27 dX12_arePair_15 rfl (by decide) (fun c15 => ?_) (fun c15 => absurd c15 (by decide))
      refine ma_iconst dX12_arePair_27 ?_
      first | exact ma_zret dX12_arePair_28 rfl (Or.inr rfl) (K1 (by omega) (by omega) (by omega)) | exact ma_zret dX12_arePair_28 rfl (Or.inl rfl) (K0 (by omega))
  · -- k0
    refine ma_rif_eq 27 dX12_arePair_6 rfl (by decide) (fun c6 => ?_) (fun c6 => absurd c6 (by decide))
    refine ma_iconst dX12_arePair_27 ?_
    first | exact ma_zret dX12_arePair_28 rfl (Or.inr rfl) (K1 (by omega) (by omega) (by omega)) | exact ma_zret dX12_arePair_28 rfl (Or.inl rfl) (K0 (by omega))
theorem eg_b {t : Int} {G E P F R : Int → Int} (hB : BQ t G E P F R) {tt u v : Int} (t0 : 0 ≤ tt ∧ tt < t) (u0 : 0 ≤ u ∧ u < 4) (v0 : 0 ≤ v ∧ v < 4) (uv : u ≠ v) : 0 ≤ eg E (16 * tt + 4 * u + v) ∧ eg E (16 * tt + 4 * u + v) < 16 * t := by
  obtain ⟨o1, f1, r1, r2⟩ := bq_E hB t0 u0 v0 uv
  obtain ⟨o2, f2, r3, r4⟩ := bq_E hB t0 v0 u0 (Ne.symm uv)
  unfold eg
  rw [tr_m u0 v0]
  split <;> omega
set_option maxHeartbeats 2000000 in
theorem l_X12_degreeOf_3 {h : ma_H} {a nx d : Nat} {t : Int} {G Aa E P F R : Int → Int} {Q : Option ma_V → ma_H → Nat → Prop} {I : Nat → Int} {x tt u : Int} (hM : h 73 = co 12 (mo I)) (ha : h a = ci 33 Aa) (hG : VG t G) (hA : AG t G Aa) (h86 : h 86 = ci 128 F) (h87 : h 87 = ci 32 R) (hB : BQ t G E P F R) (hx : rg x) (K : Q (some (vi (dA E (16 * t) x))) h nx) (t0 : 0 ≤ tt ∧ tt < t) (u0 : 0 ≤ u ∧ u < 4) (KO : ∀ n, (n = ct (dP E x) ((16 * tt + 4 * u + 4)).toNat) → ma_J none mX12_degreeOf (d + 2) 0 0 62 [some (vr 73), some (vr a), some (vi x), some (vi n), some (vi tt), some (vi u), some (vi 4)] [] h nx Q) :
    ∀ (m : Nat) (v : Int) (n : Int), (u < v) → (v ≤ 4) → (4 - v < m) → (n = ct (dP E x) ((16 * tt + 4 * u + v)).toNat) → ma_J none mX12_degreeOf (d + 2) 0 0 28 [some (vr 73), some (vr a), some (vi x), some (vi n), some (vi tt), some (vi u), some (vi v)] [] h nx Q := by
  have ht := hG.1
  unfold rg at hx
  intro m
  induction m with
  | zero => intro v n vl v1 v2 hn; omega
  | succ m ih =>
    intro v n vl v1 v2 hn
    have v0 : 0 ≤ v := by omega
    refine ma_iload dX12_degreeOf_28 rfl ?_
    refine ma_iconst dX12_degreeOf_30 ?_
    refine ma_rcmp_ge 62 dX12_degreeOf_31 rfl (by constructor <;> omega) (by constructor <;> omega) (fun c31 => ?_) (fun c31 => ?_)
    · -- 62
      have e4 : v = 4 := by omega
      subst e4
      exact KO n hn
    · -- 34
      refine ma_iload_n dX12_degreeOf_34 rfl ?_
      refine ma_aload_n dX12_degreeOf_35 rfl ?_
      refine ma_iload dX12_degreeOf_36 rfl ?_
      refine ma_iload dX12_degreeOf_38 rfl ?_
      refine ma_iload dX12_degreeOf_40 rfl ?_
      refine ma_cV [_, _, _] dX12_degreeOf_42 wX12_edgeOf lX12_258 iX12_edgeOf sX12_edgeOf rfl (by assumption) (Nat.le_of_ble_eq_true rfl) ?_
      refine c_X12_edgeOf hM h86 hG hB t0 u0 ⟨v0, by omega⟩ (by omega) ?_
      have hq := eg_b hB t0 u0 (show 0 ≤ v ∧ v < 4 by omega) (show u ≠ v by omega)
      refine ma_iload_n dX12_degreeOf_45 rfl ?_
      refine ma_rcmp_ne 53 dX12_degreeOf_46 rfl (by constructor <;> omega) (by constructor <;> omega) (fun c46 => ?_) (fun c46 => ?_)
      · -- 53
        refine ma_iconst dX12_degreeOf_53 ?_
        refine ma_iadd dX12_degreeOf_54 ?_
        refine ma_istore_nN dX12_degreeOf_55 (by decide) rfl ?_
        refine ma_iincN dX12_degreeOf_56 rfl (by decide) rfl ?_
        refine ma_goto 28 dX12_degreeOf_59 rfl ?_
        exact ih (v + 1) _ (by omega) (by omega) (by omega) (by rw [show 16 * tt + 4 * u + (v + 1) = 16 * tt + 4 * u + v + 1 by omega]; rw [ct_n (by omega) (fun z => c46 z.2), hn]; omega)
      · -- 49
        refine ma_iconst dX12_degreeOf_49 ?_
        refine ma_goto 54 dX12_degreeOf_50 rfl ?_
        refine ma_iadd dX12_degreeOf_54 ?_
        refine ma_istore_nN dX12_degreeOf_55 (by decide) rfl ?_
        refine ma_iincN dX12_degreeOf_56 rfl (by decide) rfl ?_
        refine ma_goto 28 dX12_degreeOf_59 rfl ?_
        exact ih (v + 1) _ (by omega) (by omega) (by omega) (by rw [show 16 * tt + 4 * u + (v + 1) = 16 * tt + 4 * u + v + 1 by omega]; rw [ct_y (by omega) ⟨by omega, by omega⟩, hn])
set_option maxHeartbeats 2000000 in
theorem l_X12_degreeOf_2 {h : ma_H} {a nx d : Nat} {t : Int} {G Aa E P F R : Int → Int} {Q : Option ma_V → ma_H → Nat → Prop} {I : Nat → Int} {x tt : Int} (hM : h 73 = co 12 (mo I)) (ha : h a = ci 33 Aa) (hG : VG t G) (hA : AG t G Aa) (h86 : h 86 = ci 128 F) (h87 : h 87 = ci 32 R) (hB : BQ t G E P F R) (hx : rg x) (K : Q (some (vi (dA E (16 * t) x))) h nx) (t0 : 0 ≤ tt ∧ tt < t) (KO : ∀ n x6, (n = ct (dP E x) ((16 * tt + 16)).toNat) → ma_J none mX12_degreeOf (d + 2) 0 0 68 [some (vr 73), some (vr a), some (vi x), some (vi n), some (vi tt), some (vi 4), x6] [] h nx Q) :
    ∀ (m : Nat) (u : Int) (n : Int) (x6 : Option ma_V), (0 ≤ u) → (u ≤ 4) → (4 - u < m) → (n = ct (dP E x) ((16 * tt + 4 * u)).toNat) → ma_J none mX12_degreeOf (d + 2) 0 0 16 [some (vr 73), some (vr a), some (vi x), some (vi n), some (vi tt), some (vi u), x6] [] h nx Q := by
  have ht := hG.1
  intro m
  induction m with
  | zero => intro u n x6 u0 u1 u2 hn; omega
  | succ m ih =>
    intro u n x6 u0 u1 u2 hn
    refine ma_iload dX12_degreeOf_16 rfl ?_
    refine ma_iconst dX12_degreeOf_18 ?_
    refine ma_rcmp_ge 68 dX12_degreeOf_19 rfl (by constructor <;> omega) (by constructor <;> omega) (fun c19 => ?_) (fun c19 => ?_)
    · -- 68
      have e4 : u = 4 := by omega
      subst e4
      exact KO n _ (by rw [show 16 * tt + 16 = 16 * tt + 4 * 4 by omega]; exact hn)
    · -- 22
      refine ma_iload dX12_degreeOf_22 rfl ?_
      refine ma_iconst dX12_degreeOf_24 ?_
      refine ma_iadd dX12_degreeOf_25 ?_
      refine ma_istoreN dX12_degreeOf_26 (by decide) rfl ?_
      refine l_X12_degreeOf_3 hM ha hG hA h86 h87 hB hx K t0 ⟨u0, by omega⟩ (fun n' hn' => ?_) 5 (u + 1) n (by omega) (by omega) (by omega) (by rw [hn]; exact (ct_sk2 (by omega) (by omega) (fun q q0 q1 z => by have := z.1; omega)).symm)
      refine ma_iincN dX12_degreeOf_62 rfl (by decide) rfl ?_
      refine ma_goto 16 dX12_degreeOf_65 rfl ?_
      exact ih (u + 1) n' _ (by omega) (by omega) (by omega) (by rw [show 16 * tt + 4 * (u + 1) = 16 * tt + 4 * u + 4 by omega]; exact hn')
set_option maxHeartbeats 2000000 in
theorem l_X12_degreeOf_1 {h : ma_H} {a nx d : Nat} {t : Int} {G Aa E P F R : Int → Int} {Q : Option ma_V → ma_H → Nat → Prop} {I : Nat → Int} {x : Int} (hM : h 73 = co 12 (mo I)) (ha : h a = ci 33 Aa) (hG : VG t G) (hA : AG t G Aa) (h86 : h 86 = ci 128 F) (h87 : h 87 = ci 32 R) (hB : BQ t G E P F R) (hx : rg x) (K : Q (some (vi (dA E (16 * t) x))) h nx) :
    ∀ (m : Nat) (tt : Int) (n : Int) (x5 : Option ma_V) (x6 : Option ma_V), (0 ≤ tt) → (tt ≤ t) → (t - tt < m) → (n = ct (dP E x) ((16 * tt)).toNat) → ma_J none mX12_degreeOf (d + 2) 0 0 5 [some (vr 73), some (vr a), some (vi x), some (vi n), some (vi tt), x5, x6] [] h nx Q := by
  have ht := hG.1
  intro m
  induction m with
  | zero => intro tt n x5 x6 t0 t1 t2 hn; omega
  | succ m ih =>
    intro tt n x5 x6 t0 t1 t2 hn
    refine ma_iload dX12_degreeOf_5 rfl ?_
    refine ma_aload_n dX12_degreeOf_7 rfl ?_
    refine ma_iconst dX12_degreeOf_8 ?_
    refine ma_iald dX12_degreeOf_9 (by assumption) (by omega) (by omega) (by omega) ?_
    rw [hA.1]
    refine ma_rcmp_ge 74 dX12_degreeOf_10 rfl (by constructor <;> omega) (by constructor <;> omega) (fun c10 => ?_) (fun c10 => ?_)
    · -- 74
      refine ma_iload_n dX12_degreeOf_74 rfl ?_
      have e4 : tt = t := by omega
      subst e4
      rw [hn]
      exact ma_iret dX12_degreeOf_75 rfl K
    · -- 13
      refine ma_iconst dX12_degreeOf_13 ?_
      refine ma_istoreN dX12_degreeOf_14 (by decide) rfl ?_
      refine l_X12_degreeOf_2 hM ha hG hA h86 h87 hB hx K ⟨t0, by omega⟩ (fun n' x6 hn' => ?_) 5 0 n _ (by omega) (by omega) (by omega) (by rw [show 16 * tt + 4 * 0 = 16 * tt by omega]; exact hn)
      refine ma_iincN dX12_degreeOf_68 rfl (by decide) rfl ?_
      refine ma_goto 5 dX12_degreeOf_71 rfl ?_
      exact ih (tt + 1) n' _ _ (by omega) (by omega) (by omega) (by rw [show 16 * (tt + 1) = 16 * tt + 16 by omega]; exact hn')
theorem c_X12_degreeOf {h : ma_H} {a nx d : Nat} {t : Int} {G Aa E P F R : Int → Int} {Q : Option ma_V → ma_H → Nat → Prop} {I : Nat → Int} {x : Int} (hM : h 73 = co 12 (mo I)) (ha : h a = ci 33 Aa) (hG : VG t G) (hA : AG t G Aa) (h86 : h 86 = ci 128 F) (h87 : h 87 = ci 32 R) (hB : BQ t G E P F R) (hx : rg x) (K : Q (some (vi (dA E (16 * t) x))) h nx) : ma_Ct mX12_degreeOf (d + 2) 0 0 [vr 73, vr a, vi x] h nx Q := by
  have ht := hG.1
  refine ma_Ct.of (by decide +kernel) (Nat.le_of_ble_eq_true rfl) ?_
  refine ma_iconst dX12_degreeOf_0 ?_
  refine ma_istore_nN dX12_degreeOf_1 (by decide) rfl ?_
  refine ma_iconst dX12_degreeOf_2 ?_
  refine ma_istoreN dX12_degreeOf_3 (by decide) rfl ?_
  exact l_X12_degreeOf_1 hM ha hG hA h86 h87 hB hx K 9 0 0 _ _ (by omega) (by omega) (by omega) rfl
set_option maxHeartbeats 2000000 in
theorem l_X12_endsOf_3 {h : ma_H} {a nx d : Nat} {t : Int} {G Aa E P F R : Int → Int} {Q : Option ma_V → ma_H → Nat → Prop} {I : Nat → Int} {x tt u : Int} (hM : h 73 = co 12 (mo I)) (ha : h a = ci 33 Aa) (hG : VG t G) (hA : AG t G Aa) (h86 : h 86 = ci 128 F) (h87 : h 87 = ci 32 R) (hB : BQ t G E P F R) (hx : rg x) (K : Q (some (vi (nA P E (16 * t) x))) h nx) (t0 : 0 ≤ tt ∧ tt < t) (u0 : 0 ≤ u ∧ u < 4) (KO : ∀ n, (n = ct (nP P E x) ((16 * tt + 4 * u + 4)).toNat) → ma_J none mX12_endsOf (d + 2) 0 0 89 [some (vr 73), some (vr a), some (vi x), some (vi n), some (vi tt), some (vi u), some (vi 4)] [] h nx Q) :
    ∀ (m : Nat) (v : Int) (n : Int), (0 ≤ v) → (v ≤ 4) → (4 - v < m) → (n = ct (nP P E x) ((16 * tt + 4 * u + v)).toNat) → ma_J none mX12_endsOf (d + 2) 0 0 25 [some (vr 73), some (vr a), some (vi x), some (vi n), some (vi tt), some (vi u), some (vi v)] [] h nx Q := by
  have ht := hG.1
  unfold rg at hx
  intro m
  induction m with
  | zero => intro v n vl v1 v2 hn; omega
  | succ m ih =>
    intro v n vl v1 v2 hn
    have v0 : 0 ≤ v := by omega
    refine ma_iload dX12_endsOf_25 rfl ?_
    refine ma_iconst dX12_endsOf_27 ?_
    refine ma_rcmp_ge 89 dX12_endsOf_28 rfl (by constructor <;> omega) (by constructor <;> omega) (fun c28 => ?_) (fun c28 => ?_)
    · -- 89
      have e4 : v = 4 := by omega
      subst e4
      exact KO n hn
    · -- 31
      refine ma_iload dX12_endsOf_31 rfl ?_
      refine ma_iload dX12_endsOf_33 rfl ?_
      refine ma_rcmp_eq 83 dX12_endsOf_35 rfl (by constructor <;> omega) (by constructor <;> omega) (fun c35 => ?_) (fun c35 => ?_)
      · -- 83
        refine ma_iincN dX12_endsOf_83 rfl (by decide) rfl ?_
        refine ma_goto 25 dX12_endsOf_86 rfl ?_
        exact ih (v + 1) _ (by omega) (by omega) (by omega) (by rw [show 16 * tt + 4 * u + (v + 1) = 16 * tt + 4 * u + v + 1 by omega]; rw [ct_n (by omega) (fun z => by have hz := hB.1.2.1 (16 * tt + 4 * u + v) (by omega) (by omega) (fun w => by obtain ⟨e4, e5, e6, e7⟩ := dgk (tt := tt) u0 (show 0 ≤ v ∧ v < 4 from ⟨v0, (by omega)⟩); have w3 := w.2.2; omega); have := z.2; omega), hn])
      · -- 38
        refine ma_aload_n dX12_endsOf_38 rfl ?_
        refine ma_getf dX12_endsOf_39 fX12_48 (by assumption) (by rfl) ?_
        refine ma_iload dX12_endsOf_42 rfl ?_
        refine ma_iload dX12_endsOf_44 rfl ?_
        refine ma_iload dX12_endsOf_46 rfl ?_
        refine ma_cS [_, _, _] dX12_endsOf_48 wX12_endAt lX12_255 tX12_endAt (Nat.le_of_ble_eq_true rfl) ?_
        refine c_X12_endAt ?_
        refine ma_iald dX12_endsOf_51 (by assumption) (by omega) (by omega) (by omega) ?_
        have hq := bq_E hB t0 u0 (show 0 ≤ v ∧ v < 4 by omega) c35
        rw [hq.2.1]
        refine ma_iload dX12_endsOf_52 rfl ?_
        refine ma_iload dX12_endsOf_54 rfl ?_
        refine ma_iload dX12_endsOf_56 rfl ?_
        refine ma_cS [_, _, _] dX12_endsOf_58 wX12_endAt lX12_255 tX12_endAt (Nat.le_of_ble_eq_true rfl) ?_
        refine c_X12_endAt ?_
        refine ma_rcmp_ne 83 dX12_endsOf_61 rfl (by constructor <;> omega) (by constructor <;> omega) (fun c61 => ?_) (fun c61 => ?_)
        · -- 83
          refine ma_iincN dX12_endsOf_83 rfl (by decide) rfl ?_
          refine ma_goto 25 dX12_endsOf_86 rfl ?_
          exact ih (v + 1) _ (by omega) (by omega) (by omega) (by rw [show 16 * tt + 4 * u + (v + 1) = 16 * tt + 4 * u + v + 1 by omega]; rw [ct_n (by omega) (fun z => c61 z.2), hn])
        · -- 64
          refine ma_aload_n dX12_endsOf_64 rfl ?_
          refine ma_getf dX12_endsOf_65 fX12_51 (by assumption) (by rfl) ?_
          refine ma_iconst dX12_endsOf_68 ?_
          refine ma_iload dX12_endsOf_69 rfl ?_
          refine ma_imul dX12_endsOf_71 ?_
          refine ma_iload dX12_endsOf_72 rfl ?_
          refine ma_iadd dX12_endsOf_74 ?_
          refine ma_iald dX12_endsOf_75 (by assumption) (by omega) (by omega) (by omega) ?_
          have hr := bq_P hB (c := 4 * tt + u) (by omega) (by omega)
          rw [hr.1]
          refine ma_iload_n dX12_endsOf_76 rfl ?_
          refine ma_rcmp_ne 83 dX12_endsOf_77 rfl (by constructor <;> omega) (by constructor <;> omega) (fun c77 => ?_) (fun c77 => ?_)
          · -- 83
            refine ma_iincN dX12_endsOf_83 rfl (by decide) rfl ?_
            refine ma_goto 25 dX12_endsOf_86 rfl ?_
            exact ih (v + 1) _ (by omega) (by omega) (by omega) (by rw [show 16 * tt + 4 * u + (v + 1) = 16 * tt + 4 * u + v + 1 by omega]; rw [ct_n (by omega) (fun z => c77 (by have := z.1; rw [show (16 * tt + 4 * u + v) / 4 = 4 * tt + u by omega] at this; exact this)), hn])
          · -- 80
            refine ma_iincN dX12_endsOf_80 rfl (by decide) rfl ?_
            refine ma_iincN dX12_endsOf_83 rfl (by decide) rfl ?_
            refine ma_goto 25 dX12_endsOf_86 rfl ?_
            exact ih (v + 1) _ (by omega) (by omega) (by omega) (by rw [show 16 * tt + 4 * u + (v + 1) = 16 * tt + 4 * u + v + 1 by omega]; rw [ct_y (by omega) ⟨by rw [show (16 * tt + 4 * u + v) / 4 = 4 * tt + u by omega]; omega, by omega⟩, hn])
set_option maxHeartbeats 2000000 in
theorem l_X12_endsOf_2 {h : ma_H} {a nx d : Nat} {t : Int} {G Aa E P F R : Int → Int} {Q : Option ma_V → ma_H → Nat → Prop} {I : Nat → Int} {x tt : Int} (hM : h 73 = co 12 (mo I)) (ha : h a = ci 33 Aa) (hG : VG t G) (hA : AG t G Aa) (h86 : h 86 = ci 128 F) (h87 : h 87 = ci 32 R) (hB : BQ t G E P F R) (hx : rg x) (K : Q (some (vi (nA P E (16 * t) x))) h nx) (t0 : 0 ≤ tt ∧ tt < t) (KO : ∀ n x6, (n = ct (nP P E x) ((16 * tt + 16)).toNat) → ma_J none mX12_endsOf (d + 2) 0 0 95 [some (vr 73), some (vr a), some (vi x), some (vi n), some (vi tt), some (vi 4), x6] [] h nx Q) :
    ∀ (m : Nat) (u : Int) (n : Int) (x6 : Option ma_V), (0 ≤ u) → (u ≤ 4) → (4 - u < m) → (n = ct (nP P E x) ((16 * tt + 4 * u)).toNat) → ma_J none mX12_endsOf (d + 2) 0 0 16 [some (vr 73), some (vr a), some (vi x), some (vi n), some (vi tt), some (vi u), x6] [] h nx Q := by
  have ht := hG.1
  intro m
  induction m with
  | zero => intro u n x6 u0 u1 u2 hn; omega
  | succ m ih =>
    intro u n x6 u0 u1 u2 hn
    refine ma_iload dX12_endsOf_16 rfl ?_
    refine ma_iconst dX12_endsOf_18 ?_
    refine ma_rcmp_ge 95 dX12_endsOf_19 rfl (by constructor <;> omega) (by constructor <;> omega) (fun c19 => ?_) (fun c19 => ?_)
    · -- 95
      have e4 : u = 4 := by omega
      subst e4
      exact KO n _ (by rw [show 16 * tt + 16 = 16 * tt + 4 * 4 by omega]; exact hn)
    · -- 22
      refine ma_iconst dX12_endsOf_22 ?_
      refine ma_istoreN dX12_endsOf_23 (by decide) rfl ?_
      refine l_X12_endsOf_3 hM ha hG hA h86 h87 hB hx K t0 ⟨u0, by omega⟩ (fun n' hn' => ?_) 5 0 n (by omega) (by omega) (by omega) (by rw [Int.add_zero]; exact hn)
      refine ma_iincN dX12_endsOf_89 rfl (by decide) rfl ?_
      refine ma_goto 16 dX12_endsOf_92 rfl ?_
      exact ih (u + 1) n' _ (by omega) (by omega) (by omega) (by rw [show 16 * tt + 4 * (u + 1) = 16 * tt + 4 * u + 4 by omega]; exact hn')
set_option maxHeartbeats 2000000 in
theorem l_X12_endsOf_1 {h : ma_H} {a nx d : Nat} {t : Int} {G Aa E P F R : Int → Int} {Q : Option ma_V → ma_H → Nat → Prop} {I : Nat → Int} {x : Int} (hM : h 73 = co 12 (mo I)) (ha : h a = ci 33 Aa) (hG : VG t G) (hA : AG t G Aa) (h86 : h 86 = ci 128 F) (h87 : h 87 = ci 32 R) (hB : BQ t G E P F R) (hx : rg x) (K : Q (some (vi (nA P E (16 * t) x))) h nx) :
    ∀ (m : Nat) (tt : Int) (n : Int) (x5 : Option ma_V) (x6 : Option ma_V), (0 ≤ tt) → (tt ≤ t) → (t - tt < m) → (n = ct (nP P E x) ((16 * tt)).toNat) → ma_J none mX12_endsOf (d + 2) 0 0 5 [some (vr 73), some (vr a), some (vi x), some (vi n), some (vi tt), x5, x6] [] h nx Q := by
  have ht := hG.1
  intro m
  induction m with
  | zero => intro tt n x5 x6 t0 t1 t2 hn; omega
  | succ m ih =>
    intro tt n x5 x6 t0 t1 t2 hn
    refine ma_iload dX12_endsOf_5 rfl ?_
    refine ma_aload_n dX12_endsOf_7 rfl ?_
    refine ma_iconst dX12_endsOf_8 ?_
    refine ma_iald dX12_endsOf_9 (by assumption) (by omega) (by omega) (by omega) ?_
    rw [hA.1]
    refine ma_rcmp_ge 101 dX12_endsOf_10 rfl (by constructor <;> omega) (by constructor <;> omega) (fun c10 => ?_) (fun c10 => ?_)
    · -- 101
      refine ma_iload_n dX12_endsOf_101 rfl ?_
      have e4 : tt = t := by omega
      subst e4
      rw [hn]
      exact ma_iret dX12_endsOf_102 rfl K
    · -- 13
      refine ma_iconst dX12_endsOf_13 ?_
      refine ma_istoreN dX12_endsOf_14 (by decide) rfl ?_
      refine l_X12_endsOf_2 hM ha hG hA h86 h87 hB hx K ⟨t0, by omega⟩ (fun n' x6 hn' => ?_) 5 0 n _ (by omega) (by omega) (by omega) (by rw [show 16 * tt + 4 * 0 = 16 * tt by omega]; exact hn)
      refine ma_iincN dX12_endsOf_95 rfl (by decide) rfl ?_
      refine ma_goto 5 dX12_endsOf_98 rfl ?_
      exact ih (tt + 1) n' _ _ (by omega) (by omega) (by omega) (by rw [show 16 * (tt + 1) = 16 * tt + 16 by omega]; exact hn')
theorem c_X12_endsOf {h : ma_H} {a nx d : Nat} {t : Int} {G Aa E P F R : Int → Int} {Q : Option ma_V → ma_H → Nat → Prop} {I : Nat → Int} {x : Int} (hM : h 73 = co 12 (mo I)) (ha : h a = ci 33 Aa) (hG : VG t G) (hA : AG t G Aa) (h86 : h 86 = ci 128 F) (h87 : h 87 = ci 32 R) (hB : BQ t G E P F R) (hx : rg x) (K : Q (some (vi (nA P E (16 * t) x))) h nx) : ma_Ct mX12_endsOf (d + 2) 0 0 [vr 73, vr a, vi x] h nx Q := by
  have ht := hG.1
  refine ma_Ct.of (by decide +kernel) (Nat.le_of_ble_eq_true rfl) ?_
  refine ma_iconst dX12_endsOf_0 ?_
  refine ma_istore_nN dX12_endsOf_1 (by decide) rfl ?_
  refine ma_iconst dX12_endsOf_2 ?_
  refine ma_istoreN dX12_endsOf_3 (by decide) rfl ?_
  exact l_X12_endsOf_1 hM ha hG hA h86 h87 hB hx K 9 0 0 _ _ (by omega) (by omega) (by omega) rfl
theorem cv_ne {t : Int} {G : Int → Int} (hG : VG t G) {k : Int} (k0 : 0 ≤ k) (k1 : k < 32) : (cv (G k) = -1 ↔ G k < 0) := by
  have h := (vg_in hG k0 k1).2.2
  constructor
  · intro e
    rcases Int.lt_or_le (G k) 0 with z | z
    · exact z
    · have := cv_p z (by omega)
      omega
  · exact fun z => cv_n z
set_option maxHeartbeats 2000000 in
theorem l_X12_sidesTwice_3 {h : ma_H} {a nx d : Nat} {t : Int} {G Aa E P F R : Int → Int} {Q : Option ma_V → ma_H → Nat → Prop} {I : Nat → Int} {x tt u : Int} (hM : h 73 = co 12 (mo I)) (ha : h a = ci 33 Aa) (hG : VG t G) (hA : AG t G Aa) (h86 : h 86 = ci 128 F) (h87 : h 87 = ci 32 R) (hB : BQ t G E P F R) (hx : rg x) (K : Q (some (vi (3 * zA P (4 * t) x + sA P G (16 * t) x))) h nx) (t0 : 0 ≤ tt ∧ tt < t) (u0 : 0 ≤ u ∧ u < 4) (KO : ∀ n, (n = ct (aP P x) ((16 * tt + 4 * u + 4)).toNat + ct (sP P G x) ((16 * tt + 4 * u + 4)).toNat) → ma_J none mX12_sidesTwice (d + 2) 0 0 80 [some (vr 73), some (vr a), some (vi x), some (vi n), some (vi tt), some (vi u), some (vi 4)] [] h nx Q) :
    ∀ (m : Nat) (v : Int) (n : Int), (0 ≤ v) → (v ≤ 4) → (4 - v < m) → (n = ct (aP P x) ((16 * tt + 4 * u + v)).toNat + ct (sP P G x) ((16 * tt + 4 * u + v)).toNat) → ma_J none mX12_sidesTwice (d + 2) 0 0 25 [some (vr 73), some (vr a), some (vi x), some (vi n), some (vi tt), some (vi u), some (vi v)] [] h nx Q := by
  have ht := hG.1
  unfold rg at hx
  intro m
  induction m with
  | zero => intro v n vl v1 v2 hn; omega
  | succ m ih =>
    intro v n vl v1 v2 hn
    have v0 : 0 ≤ v := by omega
    refine ma_iload dX12_sidesTwice_25 rfl ?_
    refine ma_iconst dX12_sidesTwice_27 ?_
    refine ma_rcmp_ge 80 dX12_sidesTwice_28 rfl (by constructor <;> omega) (by constructor <;> omega) (fun c28 => ?_) (fun c28 => ?_)
    · -- 80
      have e4 : v = 4 := by omega
      subst e4
      exact KO n hn
    · -- 31
      refine ma_iload dX12_sidesTwice_31 rfl ?_
      refine ma_iload dX12_sidesTwice_33 rfl ?_
      refine ma_rcmp_eq 74 dX12_sidesTwice_35 rfl (by constructor <;> omega) (by constructor <;> omega) (fun c35 => ?_) (fun c35 => ?_)
      · -- 74
        refine ma_iincN dX12_sidesTwice_74 rfl (by decide) rfl ?_
        refine ma_goto 25 dX12_sidesTwice_77 rfl ?_
        exact ih (v + 1) _ (by omega) (by omega) (by omega) (by rw [show 16 * tt + 4 * u + (v + 1) = 16 * tt + 4 * u + v + 1 by omega]; rw [ct_n (P := aP P x) (by omega) (fun z => by have z1 := z.1; have z2 := z.2; obtain ⟨e4, e5, e6, e7⟩ := dgk (tt := tt) u0 (show 0 ≤ v ∧ v < 4 from ⟨v0, (by omega)⟩); rw [e4] at z2; omega), ct_n (P := sP P G x) (by omega) (fun z => by have z1 := z.2.1; have z2 := z.1; obtain ⟨e4, e5, e6, e7⟩ := dgk (tt := tt) u0 (show 0 ≤ v ∧ v < 4 from ⟨v0, (by omega)⟩); rw [e4] at z2; omega), hn])
      · -- 38
        refine ma_aload_n dX12_sidesTwice_38 rfl ?_
        refine ma_getf dX12_sidesTwice_39 fX12_51 (by assumption) (by rfl) ?_
        refine ma_iconst dX12_sidesTwice_42 ?_
        refine ma_iload dX12_sidesTwice_43 rfl ?_
        refine ma_imul dX12_sidesTwice_45 ?_
        refine ma_iload dX12_sidesTwice_46 rfl ?_
        refine ma_iadd dX12_sidesTwice_48 ?_
        refine ma_iald dX12_sidesTwice_49 (by assumption) (by omega) (by omega) (by omega) ?_
        have hr := bq_P hB (c := 4 * tt + u) (by omega) (by omega)
        rw [hr.1]
        refine ma_iload_n dX12_sidesTwice_50 rfl ?_
        refine ma_rcmp_ne 74 dX12_sidesTwice_51 rfl (by constructor <;> omega) (by constructor <;> omega) (fun c51 => ?_) (fun c51 => ?_)
        · -- 74
          refine ma_iincN dX12_sidesTwice_74 rfl (by decide) rfl ?_
          refine ma_goto 25 dX12_sidesTwice_77 rfl ?_
          exact ih (v + 1) _ (by omega) (by omega) (by omega) (by rw [show 16 * tt + 4 * u + (v + 1) = 16 * tt + 4 * u + v + 1 by omega]; rw [ct_n (P := aP P x) (by omega) (fun z => by have z1 := z.1; have z2 := z.2; obtain ⟨e4, e5, e6, e7⟩ := dgk (tt := tt) u0 (show 0 ≤ v ∧ v < 4 from ⟨v0, (by omega)⟩); rw [e4] at z2; omega), ct_n (P := sP P G x) (by omega) (fun z => by have z1 := z.2.1; have z2 := z.1; obtain ⟨e4, e5, e6, e7⟩ := dgk (tt := tt) u0 (show 0 ≤ v ∧ v < 4 from ⟨v0, (by omega)⟩); rw [e4] at z2; omega), hn])
        · -- 54
          refine ma_iload_n dX12_sidesTwice_54 rfl ?_
          refine ma_aload_n dX12_sidesTwice_55 rfl ?_
          refine ma_iload dX12_sidesTwice_56 rfl ?_
          refine ma_iload dX12_sidesTwice_58 rfl ?_
          refine ma_cS [_, _, _] dX12_sidesTwice_60 wX12_glue lX12_150 tX12_glue (Nat.le_of_ble_eq_true rfl) ?_
          refine c_X12_glue ha (by constructor <;> omega) (by constructor <;> omega) ?_
          rw [show 1 + 4 * tt + v = 1 + (4 * tt + v) by omega, hA.2 (4 * tt + v) (by omega) (by omega)]
          have hv : vc (G (4 * tt + v)) := by have := (vg_in hG (k := 4 * tt + v) (by omega) (by omega)).2.2; unfold vc; omega
          have hcv := (cv_lt hv hv).2.2
          refine ma_iconst dX12_sidesTwice_63 ?_
          refine ma_rcmp_ne 71 dX12_sidesTwice_64 rfl (by constructor <;> omega) (by constructor <;> omega) (fun c64 => ?_) (fun c64 => ?_)
          · -- 71
            refine ma_iconst dX12_sidesTwice_71 ?_
            refine ma_iadd dX12_sidesTwice_72 ?_
            refine ma_istore_nN dX12_sidesTwice_73 (by decide) rfl ?_
            refine ma_iincN dX12_sidesTwice_74 rfl (by decide) rfl ?_
            refine ma_goto 25 dX12_sidesTwice_77 rfl ?_
            exact ih (v + 1) _ (by omega) (by omega) (by omega) (by rw [show 16 * tt + 4 * u + (v + 1) = 16 * tt + 4 * u + v + 1 by omega]; rw [ct_y (P := aP P x) (by omega) (by obtain ⟨e4, e5, e6, e7⟩ := dgk (tt := tt) u0 (show 0 ≤ v ∧ v < 4 from ⟨v0, (by omega)⟩); exact ⟨by omega, by rw [e4]; omega⟩), ct_n (P := sP P G x) (by omega) (fun z => by have z3 := z.2.2; obtain ⟨e4, e5, e6, e7⟩ := dgk (tt := tt) u0 (show 0 ≤ v ∧ v < 4 from ⟨v0, (by omega)⟩); rw [e6, e5] at z3; exact c64 ((cv_ne hG (by omega) (by omega)).mpr z3)), hn]; omega)
          · -- 67
            refine ma_iconst dX12_sidesTwice_67 ?_
            refine ma_goto 72 dX12_sidesTwice_68 rfl ?_
            refine ma_iadd dX12_sidesTwice_72 ?_
            refine ma_istore_nN dX12_sidesTwice_73 (by decide) rfl ?_
            refine ma_iincN dX12_sidesTwice_74 rfl (by decide) rfl ?_
            refine ma_goto 25 dX12_sidesTwice_77 rfl ?_
            exact ih (v + 1) _ (by omega) (by omega) (by omega) (by rw [show 16 * tt + 4 * u + (v + 1) = 16 * tt + 4 * u + v + 1 by omega]; rw [ct_y (P := aP P x) (by omega) (by obtain ⟨e4, e5, e6, e7⟩ := dgk (tt := tt) u0 (show 0 ≤ v ∧ v < 4 from ⟨v0, (by omega)⟩); exact ⟨by omega, by rw [e4]; omega⟩), ct_y (P := sP P G x) (by omega) (by obtain ⟨e4, e5, e6, e7⟩ := dgk (tt := tt) u0 (show 0 ≤ v ∧ v < 4 from ⟨v0, (by omega)⟩); exact ⟨by rw [e4]; omega, by omega, by rw [e6, e5]; exact (cv_ne hG (by omega) (by omega)).mp (by omega)⟩), hn]; omega)
set_option maxHeartbeats 2000000 in
theorem l_X12_sidesTwice_2 {h : ma_H} {a nx d : Nat} {t : Int} {G Aa E P F R : Int → Int} {Q : Option ma_V → ma_H → Nat → Prop} {I : Nat → Int} {x tt : Int} (hM : h 73 = co 12 (mo I)) (ha : h a = ci 33 Aa) (hG : VG t G) (hA : AG t G Aa) (h86 : h 86 = ci 128 F) (h87 : h 87 = ci 32 R) (hB : BQ t G E P F R) (hx : rg x) (K : Q (some (vi (3 * zA P (4 * t) x + sA P G (16 * t) x))) h nx) (t0 : 0 ≤ tt ∧ tt < t) (KO : ∀ n x6, (n = ct (aP P x) ((16 * tt + 16)).toNat + ct (sP P G x) ((16 * tt + 16)).toNat) → ma_J none mX12_sidesTwice (d + 2) 0 0 86 [some (vr 73), some (vr a), some (vi x), some (vi n), some (vi tt), some (vi 4), x6] [] h nx Q) :
    ∀ (m : Nat) (u : Int) (n : Int) (x6 : Option ma_V), (0 ≤ u) → (u ≤ 4) → (4 - u < m) → (n = ct (aP P x) ((16 * tt + 4 * u)).toNat + ct (sP P G x) ((16 * tt + 4 * u)).toNat) → ma_J none mX12_sidesTwice (d + 2) 0 0 16 [some (vr 73), some (vr a), some (vi x), some (vi n), some (vi tt), some (vi u), x6] [] h nx Q := by
  have ht := hG.1
  intro m
  induction m with
  | zero => intro u n x6 u0 u1 u2 hn; omega
  | succ m ih =>
    intro u n x6 u0 u1 u2 hn
    refine ma_iload dX12_sidesTwice_16 rfl ?_
    refine ma_iconst dX12_sidesTwice_18 ?_
    refine ma_rcmp_ge 86 dX12_sidesTwice_19 rfl (by constructor <;> omega) (by constructor <;> omega) (fun c19 => ?_) (fun c19 => ?_)
    · -- 86
      have e4 : u = 4 := by omega
      subst e4
      exact KO n _ (by rw [show 16 * tt + 16 = 16 * tt + 4 * 4 by omega]; exact hn)
    · -- 22
      refine ma_iconst dX12_sidesTwice_22 ?_
      refine ma_istoreN dX12_sidesTwice_23 (by decide) rfl ?_
      refine l_X12_sidesTwice_3 hM ha hG hA h86 h87 hB hx K t0 ⟨u0, by omega⟩ (fun n' hn' => ?_) 5 0 n (by omega) (by omega) (by omega) (by rw [Int.add_zero]; exact hn)
      refine ma_iincN dX12_sidesTwice_80 rfl (by decide) rfl ?_
      refine ma_goto 16 dX12_sidesTwice_83 rfl ?_
      exact ih (u + 1) n' _ (by omega) (by omega) (by omega) (by rw [show 16 * tt + 4 * (u + 1) = 16 * tt + 4 * u + 4 by omega]; exact hn')
set_option maxHeartbeats 2000000 in
theorem l_X12_sidesTwice_1 {h : ma_H} {a nx d : Nat} {t : Int} {G Aa E P F R : Int → Int} {Q : Option ma_V → ma_H → Nat → Prop} {I : Nat → Int} {x : Int} (hM : h 73 = co 12 (mo I)) (ha : h a = ci 33 Aa) (hG : VG t G) (hA : AG t G Aa) (h86 : h 86 = ci 128 F) (h87 : h 87 = ci 32 R) (hB : BQ t G E P F R) (hx : rg x) (K : Q (some (vi (3 * zA P (4 * t) x + sA P G (16 * t) x))) h nx) :
    ∀ (m : Nat) (tt : Int) (n : Int) (x5 : Option ma_V) (x6 : Option ma_V), (0 ≤ tt) → (tt ≤ t) → (t - tt < m) → (n = ct (aP P x) ((16 * tt)).toNat + ct (sP P G x) ((16 * tt)).toNat) → ma_J none mX12_sidesTwice (d + 2) 0 0 5 [some (vr 73), some (vr a), some (vi x), some (vi n), some (vi tt), x5, x6] [] h nx Q := by
  have ht := hG.1
  intro m
  induction m with
  | zero => intro tt n x5 x6 t0 t1 t2 hn; omega
  | succ m ih =>
    intro tt n x5 x6 t0 t1 t2 hn
    refine ma_iload dX12_sidesTwice_5 rfl ?_
    refine ma_aload_n dX12_sidesTwice_7 rfl ?_
    refine ma_iconst dX12_sidesTwice_8 ?_
    refine ma_iald dX12_sidesTwice_9 (by assumption) (by omega) (by omega) (by omega) ?_
    rw [hA.1]
    refine ma_rcmp_ge 92 dX12_sidesTwice_10 rfl (by constructor <;> omega) (by constructor <;> omega) (fun c10 => ?_) (fun c10 => ?_)
    · -- 92
      refine ma_iload_n dX12_sidesTwice_92 rfl ?_
      have e4 : tt = t := by omega
      subst e4
      rw [hn]
      exact ma_iret dX12_sidesTwice_93 rfl (by have e := ct_aP (P := P) (p := x) (4 * tt).toNat; rw [show 4 * (4 * tt).toNat = (16 * tt).toNat by omega] at e; rw [e]; exact K)
    · -- 13
      refine ma_iconst dX12_sidesTwice_13 ?_
      refine ma_istoreN dX12_sidesTwice_14 (by decide) rfl ?_
      refine l_X12_sidesTwice_2 hM ha hG hA h86 h87 hB hx K ⟨t0, by omega⟩ (fun n' x6 hn' => ?_) 5 0 n _ (by omega) (by omega) (by omega) (by rw [show 16 * tt + 4 * 0 = 16 * tt by omega]; exact hn)
      refine ma_iincN dX12_sidesTwice_86 rfl (by decide) rfl ?_
      refine ma_goto 5 dX12_sidesTwice_89 rfl ?_
      exact ih (tt + 1) n' _ _ (by omega) (by omega) (by omega) (by rw [show 16 * (tt + 1) = 16 * tt + 16 by omega]; exact hn')
theorem c_X12_sidesTwice {h : ma_H} {a nx d : Nat} {t : Int} {G Aa E P F R : Int → Int} {Q : Option ma_V → ma_H → Nat → Prop} {I : Nat → Int} {x : Int} (hM : h 73 = co 12 (mo I)) (ha : h a = ci 33 Aa) (hG : VG t G) (hA : AG t G Aa) (h86 : h 86 = ci 128 F) (h87 : h 87 = ci 32 R) (hB : BQ t G E P F R) (hx : rg x) (K : Q (some (vi (3 * zA P (4 * t) x + sA P G (16 * t) x))) h nx) : ma_Ct mX12_sidesTwice (d + 2) 0 0 [vr 73, vr a, vi x] h nx Q := by
  have ht := hG.1
  refine ma_Ct.of (by decide +kernel) (Nat.le_of_ble_eq_true rfl) ?_
  refine ma_iconst dX12_sidesTwice_0 ?_
  refine ma_istore_nN dX12_sidesTwice_1 (by decide) rfl ?_
  refine ma_iconst dX12_sidesTwice_2 ?_
  refine ma_istoreN dX12_sidesTwice_3 (by decide) rfl ?_
  exact l_X12_sidesTwice_1 hM ha hG hA h86 h87 hB hx K 9 0 0 _ _ (by omega) (by omega) (by omega) rfl
set_option maxHeartbeats 2000000 in
theorem l_X12_hasFree_3 {h : ma_H} {a nx d : Nat} {t : Int} {G Aa E P F R : Int → Int} {Q : Option ma_V → ma_H → Nat → Prop} {I : Nat → Int} {x tt u : Int} (hM : h 73 = co 12 (mo I)) (ha : h a = ci 33 Aa) (hG : VG t G) (hA : AG t G Aa) (h86 : h 86 = ci 128 F) (h87 : h 87 = ci 32 R) (hB : BQ t G E P F R) (hx : rg x) (K1 : (∃ y, 0 ≤ y ∧ y < 16 * t ∧ sP P G x y) → Q (some (vi 1)) h nx) (K0 : ¬ (∃ y, 0 ≤ y ∧ y < 16 * t ∧ sP P G x y) → Q (some (vi 0)) h nx) (t0 : 0 ≤ tt ∧ tt < t) (u0 : 0 ≤ u ∧ u < 4) (KO : (∀ y, 0 ≤ y → y < (16 * tt + 4 * u + 4) → ¬ sP P G x y) → ma_J none mX12_hasFree (d + 2) 0 0 68 [some (vr 73), some (vr a), some (vi x), some (vi tt), some (vi u), some (vi 4)] [] h nx Q) :
    ∀ (m : Nat) (v : Int), (0 ≤ v) → (v ≤ 4) → (4 - v < m) → (∀ y, 0 ≤ y → y < (16 * tt + 4 * u + v) → ¬ sP P G x y) → ma_J none mX12_hasFree (d + 2) 0 0 21 [some (vr 73), some (vr a), some (vi x), some (vi tt), some (vi u), some (vi v)] [] h nx Q := by
  have ht := hG.1
  unfold rg at hx
  intro m
  induction m with
  | zero => intro v vl v1 v2 hn; omega
  | succ m ih =>
    intro v vl v1 v2 hn
    have v0 : 0 ≤ v := by omega
    refine ma_iload dX12_hasFree_21 rfl ?_
    refine ma_iconst dX12_hasFree_23 ?_
    refine ma_rcmp_ge 68 dX12_hasFree_24 rfl (by constructor <;> omega) (by constructor <;> omega) (fun c24 => ?_) (fun c24 => ?_)
    · -- 68
      have e4 : v = 4 := by omega
      subst e4
      exact KO hn
    · -- 27
      refine ma_iload dX12_hasFree_27 rfl ?_
      refine ma_iload dX12_hasFree_29 rfl ?_
      refine ma_rcmp_eq 62 dX12_hasFree_31 rfl (by constructor <;> omega) (by constructor <;> omega) (fun c31 => ?_) (fun c31 => ?_)
      · -- 62
        refine ma_iincN dX12_hasFree_62 rfl (by decide) rfl ?_
        refine ma_goto 21 dX12_hasFree_65 rfl ?_
        exact ih (v + 1) (by omega) (by omega) (by omega) (fun y y0 y1 => by
          rcases Int.lt_or_eq_of_le (show y ≤ 16 * tt + 4 * u + v by omega) with z | z
          · exact hn y y0 z
          · subst z; intro w; have w1 := w.1; have w2 := w.2.1; have w3 := w.2.2; obtain ⟨e4, e5, e6, e7⟩ := dgk (tt := tt) u0 (show 0 ≤ v ∧ v < 4 from ⟨v0, (by omega)⟩); rw [e4] at w1; rw [e6, e5] at w3; omega)
      · -- 34
        refine ma_aload_n dX12_hasFree_34 rfl ?_
        refine ma_getf dX12_hasFree_35 fX12_51 (by assumption) (by rfl) ?_
        refine ma_iconst dX12_hasFree_38 ?_
        refine ma_iload_n dX12_hasFree_39 rfl ?_
        refine ma_imul dX12_hasFree_40 ?_
        refine ma_iload dX12_hasFree_41 rfl ?_
        refine ma_iadd dX12_hasFree_43 ?_
        refine ma_iald dX12_hasFree_44 (by assumption) (by omega) (by omega) (by omega) ?_
        have hr := bq_P hB (c := 4 * tt + u) (by omega) (by omega)
        rw [hr.1]
        refine ma_iload_n dX12_hasFree_45 rfl ?_
        refine ma_rcmp_ne 62 dX12_hasFree_46 rfl (by constructor <;> omega) (by constructor <;> omega) (fun c46 => ?_) (fun c46 => ?_)
        · -- 62
          refine ma_iincN dX12_hasFree_62 rfl (by decide) rfl ?_
          refine ma_goto 21 dX12_hasFree_65 rfl ?_
          exact ih (v + 1) (by omega) (by omega) (by omega) (fun y y0 y1 => by
            rcases Int.lt_or_eq_of_le (show y ≤ 16 * tt + 4 * u + v by omega) with z | z
            · exact hn y y0 z
            · subst z; intro w; have w1 := w.1; have w2 := w.2.1; have w3 := w.2.2; obtain ⟨e4, e5, e6, e7⟩ := dgk (tt := tt) u0 (show 0 ≤ v ∧ v < 4 from ⟨v0, (by omega)⟩); rw [e4] at w1; rw [e6, e5] at w3; omega)
        · -- 49
          refine ma_aload_n dX12_hasFree_49 rfl ?_
          refine ma_iload_n dX12_hasFree_50 rfl ?_
          refine ma_iload dX12_hasFree_51 rfl ?_
          refine ma_cS [_, _, _] dX12_hasFree_53 wX12_glue lX12_150 tX12_glue (Nat.le_of_ble_eq_true rfl) ?_
          refine c_X12_glue ha (by constructor <;> omega) (by constructor <;> omega) ?_
          rw [show 1 + 4 * tt + v = 1 + (4 * tt + v) by omega, hA.2 (4 * tt + v) (by omega) (by omega)]
          have hv : vc (G (4 * tt + v)) := by have := (vg_in hG (k := 4 * tt + v) (by omega) (by omega)).2.2; unfold vc; omega
          have hcv := (cv_lt hv hv).2.2
          refine ma_iconst dX12_hasFree_56 ?_
          refine ma_rcmp_ne 62 dX12_hasFree_57 rfl (by constructor <;> omega) (by constructor <;> omega) (fun c57 => ?_) (fun c57 => ?_)
          · -- 62
            refine ma_iincN dX12_hasFree_62 rfl (by decide) rfl ?_
            refine ma_goto 21 dX12_hasFree_65 rfl ?_
            exact ih (v + 1) (by omega) (by omega) (by omega) (fun y y0 y1 => by
              rcases Int.lt_or_eq_of_le (show y ≤ 16 * tt + 4 * u + v by omega) with z | z
              · exact hn y y0 z
              · subst z; intro w; have w1 := w.1; have w2 := w.2.1; have w3 := w.2.2; obtain ⟨e4, e5, e6, e7⟩ := dgk (tt := tt) u0 (show 0 ≤ v ∧ v < 4 from ⟨v0, (by omega)⟩); rw [e4] at w1; rw [e6, e5] at w3; exact c57 ((cv_ne hG (by omega) (by omega)).mpr w3))
          · -- 60
            refine ma_iconst dX12_hasFree_60 ?_
            obtain ⟨e4, e5, e6, e7⟩ := dgk (tt := tt) u0 (show 0 ≤ v ∧ v < 4 from ⟨v0, (by omega)⟩)
            exact ma_zret dX12_hasFree_61 rfl (Or.inr rfl) (K1 ⟨(16 * tt + 4 * u + v), by omega, by omega, by rw [e4]; omega, by omega, by rw [e6, e5]; exact (cv_ne hG (by omega) (by omega)).mp (by omega)⟩)
set_option maxHeartbeats 2000000 in
theorem l_X12_hasFree_2 {h : ma_H} {a nx d : Nat} {t : Int} {G Aa E P F R : Int → Int} {Q : Option ma_V → ma_H → Nat → Prop} {I : Nat → Int} {x tt : Int} (hM : h 73 = co 12 (mo I)) (ha : h a = ci 33 Aa) (hG : VG t G) (hA : AG t G Aa) (h86 : h 86 = ci 128 F) (h87 : h 87 = ci 32 R) (hB : BQ t G E P F R) (hx : rg x) (K1 : (∃ y, 0 ≤ y ∧ y < 16 * t ∧ sP P G x y) → Q (some (vi 1)) h nx) (K0 : ¬ (∃ y, 0 ≤ y ∧ y < 16 * t ∧ sP P G x y) → Q (some (vi 0)) h nx) (t0 : 0 ≤ tt ∧ tt < t) (KO : ∀ x6, (∀ y, 0 ≤ y → y < (16 * tt + 16) → ¬ sP P G x y) → ma_J none mX12_hasFree (d + 2) 0 0 74 [some (vr 73), some (vr a), some (vi x), some (vi tt), some (vi 4), x6] [] h nx Q) :
    ∀ (m : Nat) (u : Int) (x6 : Option ma_V), (0 ≤ u) → (u ≤ 4) → (4 - u < m) → (∀ y, 0 ≤ y → y < (16 * tt + 4 * u) → ¬ sP P G x y) → ma_J none mX12_hasFree (d + 2) 0 0 12 [some (vr 73), some (vr a), some (vi x), some (vi tt), some (vi u), x6] [] h nx Q := by
  have ht := hG.1
  intro m
  induction m with
  | zero => intro u x6 u0 u1 u2 hn; omega
  | succ m ih =>
    intro u x6 u0 u1 u2 hn
    refine ma_iload dX12_hasFree_12 rfl ?_
    refine ma_iconst dX12_hasFree_14 ?_
    refine ma_rcmp_ge 74 dX12_hasFree_15 rfl (by constructor <;> omega) (by constructor <;> omega) (fun c15 => ?_) (fun c15 => ?_)
    · -- 74
      have e4 : u = 4 := by omega
      subst e4
      exact KO _ (by rw [show 16 * tt + 16 = 16 * tt + 4 * 4 by omega]; exact hn)
    · -- 18
      refine ma_iconst dX12_hasFree_18 ?_
      refine ma_istoreN dX12_hasFree_19 (by decide) rfl ?_
      refine l_X12_hasFree_3 hM ha hG hA h86 h87 hB hx K1 K0 t0 ⟨u0, by omega⟩ (fun hn' => ?_) 5 0 (by omega) (by omega) (by omega) (by rw [Int.add_zero]; exact hn)
      refine ma_iincN dX12_hasFree_68 rfl (by decide) rfl ?_
      refine ma_goto 12 dX12_hasFree_71 rfl ?_
      exact ih (u + 1) _ (by omega) (by omega) (by omega) (by rw [show 16 * tt + 4 * (u + 1) = 16 * tt + 4 * u + 4 by omega]; exact hn')
set_option maxHeartbeats 2000000 in
theorem l_X12_hasFree_1 {h : ma_H} {a nx d : Nat} {t : Int} {G Aa E P F R : Int → Int} {Q : Option ma_V → ma_H → Nat → Prop} {I : Nat → Int} {x : Int} (hM : h 73 = co 12 (mo I)) (ha : h a = ci 33 Aa) (hG : VG t G) (hA : AG t G Aa) (h86 : h 86 = ci 128 F) (h87 : h 87 = ci 32 R) (hB : BQ t G E P F R) (hx : rg x) (K1 : (∃ y, 0 ≤ y ∧ y < 16 * t ∧ sP P G x y) → Q (some (vi 1)) h nx) (K0 : ¬ (∃ y, 0 ≤ y ∧ y < 16 * t ∧ sP P G x y) → Q (some (vi 0)) h nx) :
    ∀ (m : Nat) (tt : Int) (x5 : Option ma_V) (x6 : Option ma_V), (0 ≤ tt) → (tt ≤ t) → (t - tt < m) → (∀ y, 0 ≤ y → y < (16 * tt) → ¬ sP P G x y) → ma_J none mX12_hasFree (d + 2) 0 0 2 [some (vr 73), some (vr a), some (vi x), some (vi tt), x5, x6] [] h nx Q := by
  have ht := hG.1
  intro m
  induction m with
  | zero => intro tt x5 x6 t0 t1 t2 hn; omega
  | succ m ih =>
    intro tt x5 x6 t0 t1 t2 hn
    refine ma_iload_n dX12_hasFree_2 rfl ?_
    refine ma_aload_n dX12_hasFree_3 rfl ?_
    refine ma_iconst dX12_hasFree_4 ?_
    refine ma_iald dX12_hasFree_5 (by assumption) (by omega) (by omega) (by omega) ?_
    rw [hA.1]
    refine ma_rcmp_ge 80 dX12_hasFree_6 rfl (by constructor <;> omega) (by constructor <;> omega) (fun c6 => ?_) (fun c6 => ?_)
    · -- 80
      refine ma_iconst dX12_hasFree_80 ?_
      have e4 : tt = t := by omega
      subst e4
      exact ma_zret dX12_hasFree_81 rfl (Or.inl rfl) (K0 (fun ⟨y, y0, y1, w⟩ => hn y y0 y1 w))
    · -- 9
      refine ma_iconst dX12_hasFree_9 ?_
      refine ma_istoreN dX12_hasFree_10 (by decide) rfl ?_
      refine l_X12_hasFree_2 hM ha hG hA h86 h87 hB hx K1 K0 ⟨t0, by omega⟩ (fun x6 hn' => ?_) 5 0 _ (by omega) (by omega) (by omega) (by rw [show 16 * tt + 4 * 0 = 16 * tt by omega]; exact hn)
      refine ma_iincN dX12_hasFree_74 rfl (by decide) rfl ?_
      refine ma_goto 2 dX12_hasFree_77 rfl ?_
      exact ih (tt + 1) _ _ (by omega) (by omega) (by omega) (by rw [show 16 * (tt + 1) = 16 * tt + 16 by omega]; exact hn')
theorem c_X12_hasFree {h : ma_H} {a nx d : Nat} {t : Int} {G Aa E P F R : Int → Int} {Q : Option ma_V → ma_H → Nat → Prop} {I : Nat → Int} {x : Int} (hM : h 73 = co 12 (mo I)) (ha : h a = ci 33 Aa) (hG : VG t G) (hA : AG t G Aa) (h86 : h 86 = ci 128 F) (h87 : h 87 = ci 32 R) (hB : BQ t G E P F R) (hx : rg x) (K1 : (∃ y, 0 ≤ y ∧ y < 16 * t ∧ sP P G x y) → Q (some (vi 1)) h nx) (K0 : ¬ (∃ y, 0 ≤ y ∧ y < 16 * t ∧ sP P G x y) → Q (some (vi 0)) h nx) : ma_Ct mX12_hasFree (d + 2) 0 0 [vr 73, vr a, vi x] h nx Q := by
  have ht := hG.1
  refine ma_Ct.of (by decide +kernel) (Nat.le_of_ble_eq_true rfl) ?_
  refine ma_iconst dX12_hasFree_0 ?_
  refine ma_istore_nN dX12_hasFree_1 (by decide) rfl ?_
  exact l_X12_hasFree_1 hM ha hG hA h86 h87 hB hx K1 K0 9 0 _ _ (by omega) (by omega) (by omega) (fun y y0 y1 => by omega)
