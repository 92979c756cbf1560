theorem eg_cP {t : Int} {G E P : Int → Int} (hB : BP t G E P) (hG : VG t G) {k : Int} (hk : oE t k) : cP E (eg E k) ∧ oE t (eg E k) ∧ eg E k ≤ k := by
  have c1 : CI (oE t) (nE G) E := hB.1.2
  have c2 : CI (oE t) (nE G) (fun x => E (tr x)) := fun x f hx f0 f1 h => (eg_n hB hG hx f0 f1 h).2.2.2
  have hk' := tr_o hk
  have a := hB.1.1 k hk
  have b := hB.1.1 _ hk'
  have a1 := a.2.2 E c1
  have a2 : E (tr (E k)) = E (tr k) := a.2.2 _ c2
  have b1 := b.2.2 E c1
  have b2 : E (tr (E (tr k))) = E (tr (tr k)) := b.2.2 _ c2
  rw [tr_tr] at b2
  obtain ⟨i1, i2, i3, i4⟩ := eg_in hB hG hk
  have e1 : E (eg E k) = eg E k ∧ eg E k ≤ E (tr (eg E k)) := by
    unfold eg
    split
    · rename_i z
      rw [b1, b2]; exact ⟨rfl, by omega⟩
    · rename_i z
      rw [a1, a2]; exact ⟨rfl, by omega⟩
  refine ⟨⟨?_, ?_⟩, i3, i4⟩
  · rcases Int.lt_or_le (eg E k / 4 % 4) (eg E k % 4) with z | z
    · exact z
    · exfalso
      have n := i3.2.2
      have q := hB.1.1 _ (tr_o i3)
      have l : tr (eg E k) < eg E k := by
        unfold tr
        omega
      omega
  · show (if E (tr (eg E k)) < E (eg E k) then E (tr (eg E k)) else E (eg E k)) = eg E k
    rw [if_neg (by omega), e1.1]
/-- the edges found among the ends below K -/
def FE (E fi : Int → Int) (n K : Int) : Prop := n = ct (cP E) K.toNat ∧ (∀ k, 0 ≤ k → k < n → 0 ≤ fi k ∧ fi k < K ∧ cP E (fi k)) ∧ (∀ x, 0 ≤ x → x < K → cP E x → ∃ k, 0 ≤ k ∧ k < n ∧ fi k = x) ∧ ∀ k k', 0 ≤ k → k < k' → k' < n → fi k < fi k'
theorem fe_0 {E fi : Int → Int} : FE E fi 0 0 := ⟨rfl, fun k k0 k1 => by omega, fun x x0 x1 => by omega, fun k k' k0 k1 k2 => by omega⟩
theorem fe_n {E fi : Int → Int} {n K : Int} (K0 : 0 ≤ K) (h : FE E fi n K) (hc : ¬ cP E K) : FE E fi n (K + 1) := by
  refine ⟨by rw [ct_n K0 hc]; exact h.1, fun k k0 k1 => ?_, fun x x0 x1 hx => ?_, h.2.2.2⟩
  · have q := h.2.1 k k0 k1
    exact ⟨q.1, by omega, q.2.2⟩
  · rcases Int.lt_or_eq_of_le (show x ≤ K by omega) with z | z
    · exact h.2.2.1 x x0 z hx
    · rw [z] at hx; exact absurd hx hc
theorem fe_y {E fi : Int → Int} {n K : Int} (K0 : 0 ≤ K) (h : FE E fi n K) (hc : cP E K) : FE E (uf fi n K) (n + 1) (K + 1) := by
  have n0 : 0 ≤ n := by rw [h.1]; exact (ct_in _ _).1
  refine ⟨by rw [ct_y K0 hc, ← h.1], fun k k0 k1 => ?_, fun x x0 x1 hx => ?_, fun k k' k0 k1 k2 => ?_⟩
  · by_cases z : k = n
    · rw [z, uf_s]; exact ⟨K0, by omega, hc⟩
    · rw [uf_n z]
      have q := h.2.1 k k0 (by omega)
      exact ⟨q.1, by omega, q.2.2⟩
  · rcases Int.lt_or_eq_of_le (show x ≤ K by omega) with z | z
    · obtain ⟨k, k0, k1, e⟩ := h.2.2.1 x x0 z hx
      exact ⟨k, k0, by omega, by rw [uf_n (by omega)]; exact e⟩
    · exact ⟨n, n0, by omega, by rw [uf_s, z]⟩
  · by_cases z : k' = n
    · rw [z, uf_s, uf_n (by omega)]
      exact (h.2.1 k k0 (by omega)).2.1
    · rw [uf_n z, uf_n (by omega)]; exact h.2.2.2 k k' k0 k1 (by omega)
theorem fe_sk {E fi : Int → Int} {n : Int} : ∀ (m : Nat) {K : Int}, 0 ≤ K → FE E fi n K → (∀ x, K ≤ x → x < K + m → ¬ cP E x) → FE E fi n (K + m)
  | 0, K, _, h, _ => by rw [show K + ((0 : Nat) : Int) = K by omega]; exact h
  | m + 1, K, K0, h, hn => by
    have q := fe_n K0 h (hn K (by omega) (by omega))
    have := fe_sk m (by omega) q (fun x x0 x1 => hn x (by omega) (by omega))
    rw [show K + ((m + 1 : Nat) : Int) = K + 1 + m by omega]
    exact this
/-- counting over the list of edges -/
theorem fe_ct {E : Int → Int} {A : Int → Prop} : ∀ (K : Nat) {fi : Int → Int} {n : Int}, FE E fi n K → ct (fun k => A (fi k)) n.toNat = ct (fun x => cP E x ∧ A x) K
  | 0, fi, n, h => by
    have : n = 0 := h.1
    rw [this]
    rfl
  | K + 1, fi, n, h => by
    have eK : ((K + 1 : Nat) : Int) = (K : Int) + 1 := by omega
    have tK : ((K : Int) + 1).toNat = K + 1 := by omega
    obtain ⟨h1, h2, h3, h4⟩ := h
    rw [eK] at h2 h3
    by_cases hc : cP E K
    · have hn : n = ct (cP E) K + 1 := by
        rw [h1, eK, ct_y (by omega) hc]
        rw [Int.toNat_natCast]
      have n0 : 0 ≤ ct (cP E) K := (ct_in _ _).1
      have last : fi (n - 1) = K := by
        obtain ⟨k, k0, k1, e⟩ := h3 K (by omega) (by omega) hc
        rcases Int.lt_or_eq_of_le (show k ≤ n - 1 by omega) with z | z
        · have := h4 k (n - 1) k0 z (by omega)
          have := (h2 (n - 1) (by omega) (by omega)).2.1
          omega
        · rw [← z]; exact e
      have F : FE E fi (n - 1) K := by
        refine ⟨by rw [Int.toNat_natCast]; omega, fun k k0 k1 => ?_, fun x x0 x1 hx => ?_, fun k k' k0 k1 k2 => h4 k k' k0 k1 (by omega)⟩
        · have q := h2 k k0 (by omega)
          have := h4 k (n - 1) k0 k1 (by omega)
          exact ⟨q.1, by omega, q.2.2⟩
        · obtain ⟨k, k0, k1, e⟩ := h3 x x0 (by omega) hx
          exact ⟨k, k0, by
            rcases Int.lt_or_eq_of_le (show k ≤ n - 1 by omega) with z | z
            · exact z
            · rw [z, last] at e; omega, e⟩
      have ih := fe_ct (A := A) K F
      have en : n.toNat = (n - 1).toNat + 1 := by omega
      have sn := ct_sn (P := fun k => A (fi k)) (n - 1).toNat
      have sk := ct_sn (P := fun x => cP E x ∧ A x) K
      rw [en]
      have e2 : (((n - 1).toNat : Nat) : Int) = n - 1 := by omega
      by_cases ha : A K
      · rw [sn.1 (by show A (fi (((n - 1).toNat : Nat) : Int)); rw [e2, last]; exact ha), sk.1 ⟨hc, ha⟩, ih]
      · rw [sn.2 (by show ¬ A (fi (((n - 1).toNat : Nat) : Int)); rw [e2, last]; exact ha), sk.2 (fun z => ha z.2), ih]
    · have hn : n = ct (cP E) K := by
        rw [h1, eK, ct_n (by omega) hc, Int.toNat_natCast]
      have F : FE E fi n K := by
        refine ⟨by rw [Int.toNat_natCast]; exact hn, fun k k0 k1 => ?_, fun x x0 x1 hx => h3 x x0 (by omega) hx, h4⟩
        have q := h2 k k0 k1
        refine ⟨q.1, ?_, q.2.2⟩
        rcases Int.lt_or_eq_of_le (show fi k ≤ K by omega) with z | z
        · exact z
        · rw [z] at q; exact absurd q.2.2 hc
      rw [(ct_sn (P := fun x => cP E x ∧ A x) K).2 (fun z => hc z.1)]
      exact fe_ct K F
theorem c_X12_edgeAt {h : ma_H} {nx d : Nat} {t k : Int} {G E P F R fi : Int → Int} {Q : Option ma_V → ma_H → Nat → Prop} {I : Nat → Int} (hM : h 73 = co 12 (mo I)) (h86 : h 86 = ci 128 F) (h88 : h 88 = ci 48 fi) (hG : VG t G) (hB : BQ t G E P F R) (k0 : 0 ≤ k ∧ k < 48) (hk : 0 ≤ fi k ∧ fi k < 16 * t ∧ cP E (fi k)) (K : Q (some (vi (fi k))) h nx) : ma_Ct mX12_edgeAt (d + 2) 0 0 [vr 73, vi k] h nx Q := by
  have ht := hG.1
  obtain ⟨f0, f1, f2, f3⟩ := hk
  have ed : 16 * (fi k / 16) + 4 * (fi k / 4 % 4) + fi k % 4 = fi k := by omega
  have hu : 0 ≤ fi k / 4 % 4 ∧ fi k / 4 % 4 < 4 := by omega
  have hv : 0 ≤ fi k % 4 ∧ fi k % 4 < 4 := by omega
  have hT : 0 ≤ fi k / 16 ∧ fi k / 16 < t := by omega
  refine ma_Ct.of (by decide +kernel) (Nat.le_of_ble_eq_true rfl) ?_
  refine ma_aload_n dX12_edgeAt_0 rfl ?_
  refine ma_aload_n dX12_edgeAt_1 rfl ?_
  refine ma_getf dX12_edgeAt_2 fX12_54 (by assumption) (by rfl) ?_
  refine ma_iload_n dX12_edgeAt_5 rfl ?_
  refine ma_iald dX12_edgeAt_6 (by assumption) (by omega) (by omega) (by omega) ?_
  refine ma_bipush dX12_edgeAt_7 ?_
  refine ma_kdiv dX12_edgeAt_9 (by constructor <;> omega) (by constructor <;> omega) ?_
  refine ma_aload_n dX12_edgeAt_10 rfl ?_
  refine ma_getf dX12_edgeAt_11 fX12_54 (by assumption) (by rfl) ?_
  refine ma_iload_n dX12_edgeAt_14 rfl ?_
  refine ma_iald dX12_edgeAt_15 (by assumption) (by omega) (by omega) (by omega) ?_
  refine ma_iconst dX12_edgeAt_16 ?_
  refine ma_kdiv dX12_edgeAt_17 (by constructor <;> omega) (by constructor <;> omega) ?_
  refine ma_iconst dX12_edgeAt_18 ?_
  refine ma_kmod dX12_edgeAt_19 (by constructor <;> omega) (by constructor <;> omega) ?_
  refine ma_aload_n dX12_edgeAt_20 rfl ?_
  refine ma_getf dX12_edgeAt_21 fX12_54 (by assumption) (by rfl) ?_
  refine ma_iload_n dX12_edgeAt_24 rfl ?_
  refine ma_iald dX12_edgeAt_25 (by assumption) (by omega) (by omega) (by omega) ?_
  refine ma_iconst dX12_edgeAt_26 ?_
  refine ma_kmod dX12_edgeAt_27 (by constructor <;> omega) (by constructor <;> omega) ?_
  refine ma_cV [_, _, _] dX12_edgeAt_28 wX12_edgeOf lX12_258 iX12_edgeOf sX12_edgeOf rfl (by assumption) (Nat.le_of_ble_eq_true rfl) ?_
  refine c_X12_edgeOf hM h86 hG hB hT hu hv (by omega) ?_
  rw [ed, f3]
  exact ma_iret dX12_edgeAt_31 rfl K
theorem c_X12_isReversedAt {h : ma_H} {nx d : Nat} {t k : Int} {G E P F R fi : Int → Int} {Q : Option ma_V → ma_H → Nat → Prop} {I : Nat → Int} (hM : h 73 = co 12 (mo I)) (h86 : h 86 = ci 128 F) (h88 : h 88 = ci 48 fi) (hG : VG t G) (hB : BQ t G E P F R) (k0 : 0 ≤ k ∧ k < 48) (hk : 0 ≤ fi k ∧ fi k < 16 * t ∧ cP E (fi k)) (K1 : E (fi k) = E (tr (fi k)) → Q (some (vi 1)) h nx) (K0 : E (fi k) ≠ E (tr (fi k)) → Q (some (vi 0)) h nx) : ma_Ct mX12_isReversedAt (d + 2) 0 0 [vr 73, vi k] h nx Q := by
  have ht := hG.1
  obtain ⟨f0, f1, f2, f3⟩ := hk
  have ed : 16 * (fi k / 16) + 4 * (fi k / 4 % 4) + fi k % 4 = fi k := by omega
  have hu : 0 ≤ fi k / 4 % 4 ∧ fi k / 4 % 4 < 4 := by omega
  have hv : 0 ≤ fi k % 4 ∧ fi k % 4 < 4 := by omega
  have hT : 0 ≤ fi k / 16 ∧ fi k / 16 < t := by omega
  refine ma_Ct.of (by decide +kernel) (Nat.le_of_ble_eq_true rfl) ?_
  refine ma_aload_n dX12_isReversedAt_0 rfl ?_
  refine ma_aload_n dX12_isReversedAt_1 rfl ?_
  refine ma_getf dX12_isReversedAt_2 fX12_54 (by assumption) (by rfl) ?_
  refine ma_iload_n dX12_isReversedAt_5 rfl ?_
  refine ma_iald dX12_isReversedAt_6 (by assumption) (by omega) (by omega) (by omega) ?_
  refine ma_bipush dX12_isReversedAt_7 ?_
  refine ma_kdiv dX12_isReversedAt_9 (by constructor <;> omega) (by constructor <;> omega) ?_
  refine ma_aload_n dX12_isReversedAt_10 rfl ?_
  refine ma_getf dX12_isReversedAt_11 fX12_54 (by assumption) (by rfl) ?_
  refine ma_iload_n dX12_isReversedAt_14 rfl ?_
  refine ma_iald dX12_isReversedAt_15 (by assumption) (by omega) (by omega) (by omega) ?_
  refine ma_iconst dX12_isReversedAt_16 ?_
  refine ma_kdiv dX12_isReversedAt_17 (by constructor <;> omega) (by constructor <;> omega) ?_
  refine ma_iconst dX12_isReversedAt_18 ?_
  refine ma_kmod dX12_isReversedAt_19 (by constructor <;> omega) (by constructor <;> omega) ?_
  refine ma_aload_n dX12_isReversedAt_20 rfl ?_
  refine ma_getf dX12_isReversedAt_21 fX12_54 (by assumption) (by rfl) ?_
  refine ma_iload_n dX12_isReversedAt_24 rfl ?_
  refine ma_iald dX12_isReversedAt_25 (by assumption) (by omega) (by omega) (by omega) ?_
  refine ma_iconst dX12_isReversedAt_26 ?_
  refine ma_kmod dX12_isReversedAt_27 (by constructor <;> omega) (by constructor <;> omega) ?_
  refine ma_cV [_, _, _] dX12_isReversedAt_28 wX12_isReversed lX12_276 iX12_isReversed sX12_isReversed rfl (by assumption) (Nat.le_of_ble_eq_true rfl) ?_
  refine c_X12_isReversed hM h86 hG hB hT hu hv (by omega) (fun z => ?_) (fun z => ?_) <;> rw [ed] at z
  · -- k1
    first | exact ma_zret dX12_isReversedAt_31 rfl (Or.inr rfl) (K1 z) | exact ma_zret dX12_isReversedAt_31 rfl (Or.inl rfl) (K0 z)
  · -- k0
    first | exact ma_zret dX12_isReversedAt_31 rfl (Or.inr rfl) (K1 z) | exact ma_zret dX12_isReversedAt_31 rfl (Or.inl rfl) (K0 z)
set_option maxHeartbeats 2000000 in
theorem l_lE38b {h : ma_H} {a nx d : Nat} {tt u v n : Int} {E fi : Int → Int} {Q : Option ma_V → ma_H → Nat → Prop} {I : Nat → Int} (KO : ∀ fl x6, (fl = 1 ∧ ∀ j, 0 ≤ j → j < n → fi j ≠ eg E (16 * tt + 4 * u + v)) ∨ (fl = 0 ∧ ∃ j, 0 ≤ j ∧ j < n ∧ fi j = eg E (16 * tt + 4 * u + v)) → ma_J none mX12_layEdges (d + 3) 0 0 82 [some (vr 73), some (vr a), some (vi tt), some (vi u), some (vi v), some (vi fl), x6] [] (ma_up (ma_up h 88 (ci 48 fi)) 73 (co 12 (mo (iu I 22 n)))) nx Q) (nb : 0 ≤ n ∧ n ≤ 48) :
    ∀ (m : Nat) (k : Int), (0 ≤ k) → (k ≤ n) → (n - k < m) → (∃ j, 0 ≤ j ∧ j < n ∧ fi j = eg E (16 * tt + 4 * u + v)) → ma_J none mX12_layEdges (d + 3) 0 0 38 [some (vr 73), some (vr a), some (vi tt), some (vi u), some (vi v), some (vi 0), some (vi k)] [] (ma_up (ma_up h 88 (ci 48 fi)) 73 (co 12 (mo (iu I 22 n)))) nx Q := by
  intro m
  induction m with
  | zero => intro k k0 k1 k2 hx; omega
  | succ m ih =>
    intro k k0 k1 k2 hx
    refine ma_iload dX12_layEdges_38 rfl ?_
    refine ma_aload_n dX12_layEdges_40 rfl ?_
    refine ma_getf dX12_layEdges_41 fX12_300 (by first | exact ma_up_s _ _ _ | exact (ma_up_n (by decide)).trans (ma_up_s _ _ _) | exact (ma_up_n (by first | decide | omega)).trans ((ma_up_n (by first | decide | omega)).trans (by assumption))) (by rfl) ?_
    rw [iu_s]
    refine ma_rcmp_ge 82 dX12_layEdges_44 rfl (by constructor <;> omega) (by constructor <;> omega) (fun c44 => ?_) (fun c44 => ?_)
    · -- 82
      exact KO 0 _ (Or.inr ⟨rfl, hx⟩)
    · -- 47
      refine ma_iload dX12_layEdges_47 rfl ?_
      refine ma_rif_eq 73 dX12_layEdges_49 rfl (by decide) (fun c49 => ?_) (fun c49 => absurd c49 (by decide))
      refine ma_iconst dX12_layEdges_73 ?_
      refine ma_istoreN dX12_layEdges_74 (by decide) rfl ?_
      refine ma_iincN dX12_layEdges_76 rfl (by decide) rfl ?_
      refine ma_goto 38 dX12_layEdges_79 rfl ?_
      exact ih (k + 1) (by omega) (by omega) (by omega) hx
set_option maxHeartbeats 2000000 in
theorem l_lE38 {h : ma_H} {a nx d : Nat} {t : Int} {G Aa E P F R : Int → Int} {Q : Option ma_V → ma_H → Nat → Prop} {I : Nat → Int} {tt u v n : Int} {fi : Int → Int} (hM : h 73 = co 12 (mo I)) (ha : h a = ci 33 Aa) (na : a ≠ 88 ∧ a ≠ 73) (hG : VG t G) (hA : AG t G Aa) (h86 : h 86 = ci 128 F) (hB : BQ t G E P F R) (t0 : 0 ≤ tt ∧ tt < t) (u0 : 0 ≤ u ∧ u < 4) (v0 : 0 ≤ v ∧ v < 4) (uv : u ≠ v) (hF : FE E fi n (16 * tt + 4 * u + v)) (nb : 0 ≤ n ∧ n ≤ 48) (KO : ∀ fl x6, (fl = 1 ∧ ∀ j, 0 ≤ j → j < n → fi j ≠ eg E (16 * tt + 4 * u + v)) ∨ (fl = 0 ∧ ∃ j, 0 ≤ j ∧ j < n ∧ fi j = eg E (16 * tt + 4 * u + v)) → ma_J none mX12_layEdges (d + 3) 0 0 82 [some (vr 73), some (vr a), some (vi tt), some (vi u), some (vi v), some (vi fl), x6] [] (ma_up (ma_up h 88 (ci 48 fi)) 73 (co 12 (mo (iu I 22 n)))) nx Q) :
    ∀ (m : Nat) (k : Int), (0 ≤ k) → (k ≤ n) → (n - k < m) → (∀ j, 0 ≤ j → j < k → fi j ≠ eg E (16 * tt + 4 * u + v)) → ma_J none mX12_layEdges (d + 3) 0 0 38 [some (vr 73), some (vr a), some (vi tt), some (vi u), some (vi v), some (vi 1), some (vi k)] [] (ma_up (ma_up h 88 (ci 48 fi)) 73 (co 12 (mo (iu I 22 n)))) nx Q := by
  have ht := hG.1
  intro m
  induction m with
  | zero => intro k k0 k1 k2 hs; omega
  | succ m ih =>
    intro k k0 k1 k2 hs
    refine ma_iload dX12_layEdges_38 rfl ?_
    refine ma_aload_n dX12_layEdges_40 rfl ?_
    refine ma_getf dX12_layEdges_41 fX12_300 (by first | exact ma_up_s _ _ _ | exact (ma_up_n (by decide)).trans (ma_up_s _ _ _) | exact (ma_up_n (by first | decide | omega)).trans ((ma_up_n (by first | decide | omega)).trans (by assumption))) (by rfl) ?_
    rw [iu_s]
    refine ma_rcmp_ge 82 dX12_layEdges_44 rfl (by constructor <;> omega) (by constructor <;> omega) (fun c44 => ?_) (fun c44 => ?_)
    · -- 82
      exact KO 1 _ (Or.inl ⟨rfl, fun j j0 j1 => hs j j0 (by omega)⟩)
    · -- 47
      refine ma_iload dX12_layEdges_47 rfl ?_
      refine ma_rif_eq 73 dX12_layEdges_49 rfl (by decide) (fun c49 => absurd c49 (by decide)) (fun c49 => ?_)
      refine ma_aload_n dX12_layEdges_52 rfl ?_
      refine ma_iload dX12_layEdges_53 rfl ?_
      refine ma_cV [_] dX12_layEdges_55 wX12_edgeAt lX12_303 iX12_edgeAt sX12_edgeAt rfl (by first | exact ma_up_s _ _ _ | exact (ma_up_n (by decide)).trans (ma_up_s _ _ _) | exact (ma_up_n (by first | decide | omega)).trans ((ma_up_n (by first | decide | omega)).trans (by assumption))) (Nat.le_of_ble_eq_true rfl) ?_
      refine c_X12_edgeAt (ma_up_s _ _ _) ((ma_up_n (by decide)).trans ((ma_up_n (by decide)).trans h86)) ((ma_up_n (by decide)).trans (ma_up_s _ _ _)) hG hB ⟨k0, by omega⟩ (by have q := hF.2.1 k k0 (by omega); exact ⟨q.1, by omega, q.2.2⟩) ?_
      have fb := hF.2.1 k k0 (by omega)
      refine ma_aload_n dX12_layEdges_58 rfl ?_
      refine ma_iload_n dX12_layEdges_59 rfl ?_
      refine ma_iload_n dX12_layEdges_60 rfl ?_
      refine ma_iload dX12_layEdges_61 rfl ?_
      refine ma_cV [_, _, _] dX12_layEdges_63 wX12_edgeOf lX12_258 iX12_edgeOf sX12_edgeOf rfl (by first | exact ma_up_s _ _ _ | exact (ma_up_n (by decide)).trans (ma_up_s _ _ _) | exact (ma_up_n (by first | decide | omega)).trans ((ma_up_n (by first | decide | omega)).trans (by assumption))) (Nat.le_of_ble_eq_true rfl) ?_
      refine c_X12_edgeOf (ma_up_s _ _ _) ((ma_up_n (by decide)).trans ((ma_up_n (by decide)).trans h86)) hG hB t0 u0 v0 uv ?_
      have eb := eg_b hB t0 u0 v0 uv
      refine ma_rcmp_eq 73 dX12_layEdges_66 rfl (by constructor <;> omega) (by constructor <;> omega) (fun c66 => ?_) (fun c66 => ?_)
      · -- 73
        refine ma_iconst dX12_layEdges_73 ?_
        refine ma_istoreN dX12_layEdges_74 (by decide) rfl ?_
        refine ma_iincN dX12_layEdges_76 rfl (by decide) rfl ?_
        refine ma_goto 38 dX12_layEdges_79 rfl ?_
        exact l_lE38b KO nb 49 (k + 1) (by omega) (by omega) (by omega) ⟨k, k0, by omega, c66⟩
      · -- 69
        refine ma_iconst dX12_layEdges_69 ?_
        refine ma_goto 74 dX12_layEdges_70 rfl ?_
        refine ma_istoreN dX12_layEdges_74 (by decide) rfl ?_
        refine ma_iincN dX12_layEdges_76 rfl (by decide) rfl ?_
        refine ma_goto 38 dX12_layEdges_79 rfl ?_
        exact ih (k + 1) (by omega) (by omega) (by omega) (fun j j0 j1 => by
          rcases Int.lt_or_eq_of_le (show j ≤ k by omega) with y | y
          · exact hs j j0 y
          · rw [y]; exact c66)
def pu (u : Int) : Int := if u = 0 then 0 else if u = 1 then 3 else if u = 2 then 5 else 6
theorem pu_s {u : Int} (u0 : 0 ≤ u) (u1 : u < 4) : pu (u + 1) = pu u + (3 - u) ∧ 0 ≤ pu u ∧ pu u + (3 - u) ≤ 6 := by
  rcases four_of u0 u1 with rfl | rfl | rfl | rfl <;> decide
theorem up88 {h : ma_H} {A B A' : ma_C} : ma_up (ma_up (ma_up h 88 A) 73 B) 88 A' = ma_up (ma_up h 88 A') 73 B := by
  rw [ma_up_cm _ _ _ (by decide : 73 ≠ 88), ma_up_up]
set_option maxHeartbeats 2000000 in
theorem l_lE26 {h : ma_H} {a nx d : Nat} {t : Int} {G Aa E P F R : Int → Int} {Q : Option ma_V → ma_H → Nat → Prop} {I : Nat → Int} {tt u : Int} (hM : h 73 = co 12 (mo I)) (ha : h a = ci 33 Aa) (na : a ≠ 88 ∧ a ≠ 73) (hG : VG t G) (hA : AG t G Aa) (h86 : h 86 = ci 128 F) (hB : BQ t G E P F R) (t0 : 0 ≤ tt ∧ tt < t) (u0 : 0 ≤ u ∧ u < 4) (KO : ∀ fi n x5 x6, n ≤ 6 * tt + pu (u + 1) → FE E fi n (16 * tt + 4 * u + 4) → ma_J none mX12_layEdges (d + 3) 0 0 116 [some (vr 73), some (vr a), some (vi tt), some (vi u), some (vi 4), x5, x6] [] (ma_up (ma_up h 88 (ci 48 fi)) 73 (co 12 (mo (iu I 22 n)))) nx Q) :
    ∀ (m : Nat) (v : Int) (fi : Int → Int) (n : Int) (x5 : Option ma_V) (x6 : Option ma_V), (u < v) → (v ≤ 4) → (4 - v < m) → (n ≤ 6 * tt + pu u + (v - u - 1)) → (FE E fi n (16 * tt + 4 * u + v)) → ma_J none mX12_layEdges (d + 3) 0 0 26 [some (vr 73), some (vr a), some (vi tt), some (vi u), some (vi v), x5, x6] [] (ma_up (ma_up h 88 (ci 48 fi)) 73 (co 12 (mo (iu I 22 n)))) nx Q := by
  have ht := hG.1
  have pb := pu_s u0.1 u0.2
  intro m
  induction m with
  | zero => intro v fi n x5 x6 vl v1 v2 hb hF; omega
  | succ m ih =>
    intro v fi n x5 x6 vl v1 v2 hb hF
    refine ma_iload dX12_layEdges_26 rfl ?_
    refine ma_iconst dX12_layEdges_28 ?_
    refine ma_rcmp_ge 116 dX12_layEdges_29 rfl (by constructor <;> omega) (by constructor <;> omega) (fun c29 => ?_) (fun c29 => ?_)
    · -- 116
      have e4 : v = 4 := by omega
      subst e4
      exact KO fi n _ _ (by have := (pu_s u0.1 u0.2).1; omega) hF
    · -- 32
      refine ma_iconst dX12_layEdges_32 ?_
      refine ma_istoreN dX12_layEdges_33 (by decide) rfl ?_
      refine ma_iconst dX12_layEdges_35 ?_
      refine ma_istoreN dX12_layEdges_36 (by decide) rfl ?_
      refine l_lE38 hM ha na hG hA h86 hB t0 u0 ⟨by omega, by omega⟩ (by omega) hF ⟨by rw [hF.1]; exact (ct_in _ _).1, by omega⟩ (fun fl x6' hfl => ?_) 49 0 (by omega) (by rw [hF.1]; exact (ct_in _ _).1) (by omega) (fun j j0 j1 => by omega)
      have n0 : 0 ≤ n := by rw [hF.1]; exact (ct_in _ _).1
      have hoe := bq_E hB t0 u0 (show 0 ≤ v ∧ v < 4 by omega) (show u ≠ v by omega)
      obtain ⟨g1, g2, g3⟩ := eg_cP hB.1 hG hoe.1
      obtain ⟨d4, d5, d6, d7⟩ := dgk (tt := tt) u0 (show 0 ≤ v ∧ v < 4 by omega)
      rcases hfl with ⟨e1, hfl⟩ | ⟨e1, hfl⟩
      · subst e1
        have hc : cP E (16 * tt + 4 * u + v) := by
          refine ⟨by omega, Classical.byContradiction (fun z => ?_)⟩
          obtain ⟨j, j0, j1, ej⟩ := hF.2.2.1 (eg E (16 * tt + 4 * u + v)) g2.1 (by omega) g1
          exact hfl j j0 j1 ej
        refine ma_iload dX12_layEdges_82 rfl ?_
        refine ma_rif_eq 110 dX12_layEdges_84 rfl (by decide) (fun c84 => absurd c84 (by decide)) (fun c84 => ?_)
        refine ma_aload_n dX12_layEdges_87 rfl ?_
        refine ma_getf dX12_layEdges_88 fX12_54 (by first | exact ma_up_s _ _ _ | exact (ma_up_n (by decide)).trans (ma_up_s _ _ _) | exact (ma_up_n (by first | decide | omega)).trans ((ma_up_n (by first | decide | omega)).trans (by assumption))) (by rfl) ?_
        refine ma_aload_n dX12_layEdges_91 rfl ?_
        refine ma_dup dX12_layEdges_92 rfl ?_
        refine ma_getf dX12_layEdges_93 fX12_300 (by first | exact ma_up_s _ _ _ | exact (ma_up_n (by decide)).trans (ma_up_s _ _ _) | exact (ma_up_n (by first | decide | omega)).trans ((ma_up_n (by first | decide | omega)).trans (by assumption))) (by rfl) ?_
        rw [iu_s]
        refine ma_dup_x1 dX12_layEdges_96 rfl rfl ?_
        refine ma_iconst dX12_layEdges_97 ?_
        refine ma_iadd dX12_layEdges_98 ?_
        refine ma_puti dX12_layEdges_99 fX12_300 (by first | exact ma_up_s _ _ _ | exact (ma_up_n (by decide)).trans (ma_up_s _ _ _) | exact (ma_up_n (by first | decide | omega)).trans ((ma_up_n (by first | decide | omega)).trans (by assumption))) (Nat.le_of_ble_eq_true rfl) ?_
        rw [mo_22, ma_up_up, show iu (iu I 22 n) 22 (n + 1) = iu I 22 (n + 1) from by funext j; unfold iu; split <;> rfl]
        refine ma_iload_n dX12_layEdges_102 rfl ?_
        refine ma_iload_n dX12_layEdges_103 rfl ?_
        refine ma_iload dX12_layEdges_104 rfl ?_
        refine ma_cS [_, _, _] dX12_layEdges_106 wX12_endAt lX12_255 tX12_endAt (Nat.le_of_ble_eq_true rfl) ?_
        refine c_X12_endAt ?_
        refine ma_iast dX12_layEdges_109 (by first | exact ma_up_s _ _ _ | exact (ma_up_n (by decide)).trans (ma_up_s _ _ _) | exact (ma_up_n (by first | decide | omega)).trans ((ma_up_n (by first | decide | omega)).trans (by assumption))) (by omega) (by omega) (by omega) ?_
        rw [up88]
        refine ma_iincN dX12_layEdges_110 rfl (by decide) rfl ?_
        refine ma_goto 26 dX12_layEdges_113 rfl ?_
        exact ih (v + 1) _ (n + 1) _ _ (by omega) (by omega) (by omega) (by omega) (by rw [show 16 * tt + 4 * u + (v + 1) = (16 * tt + 4 * u + v) + 1 by omega]; exact fe_y (by omega) hF hc)
      · subst e1
        have hc : ¬ cP E (16 * tt + 4 * u + v) := fun z => by
          obtain ⟨j, j0, j1, ej⟩ := hfl
          have q := (hF.2.1 j j0 j1).2.1
          have q2 := z.2
          omega
        refine ma_iload dX12_layEdges_82 rfl ?_
        refine ma_rif_eq 110 dX12_layEdges_84 rfl (by decide) (fun c84 => ?_) (fun c84 => absurd c84 (by decide))
        refine ma_iincN dX12_layEdges_110 rfl (by decide) rfl ?_
        refine ma_goto 26 dX12_layEdges_113 rfl ?_
        exact ih (v + 1) fi n _ _ (by omega) (by omega) (by omega) (by omega) (by rw [show 16 * tt + 4 * u + (v + 1) = (16 * tt + 4 * u + v) + 1 by omega]; exact fe_n (by omega) hF hc)
set_option maxHeartbeats 2000000 in
theorem l_lE16 {h : ma_H} {a nx d : Nat} {t : Int} {G Aa E P F R : Int → Int} {Q : Option ma_V → ma_H → Nat → Prop} {I : Nat → Int} {tt : Int} (hM : h 73 = co 12 (mo I)) (ha : h a = ci 33 Aa) (na : a ≠ 88 ∧ a ≠ 73) (hG : VG t G) (hA : AG t G Aa) (h86 : h 86 = ci 128 F) (hB : BQ t G E P F R) (t0 : 0 ≤ tt ∧ tt < t) (KO : ∀ fi n x4 x5 x6, n ≤ 6 * tt + 6 → FE E fi n (16 * tt + 16) → ma_J none mX12_layEdges (d + 3) 0 0 122 [some (vr 73), some (vr a), some (vi tt), some (vi 4), x4, x5, x6] [] (ma_up (ma_up h 88 (ci 48 fi)) 73 (co 12 (mo (iu I 22 n)))) nx Q) :
    ∀ (m : Nat) (u : Int) (fi : Int → Int) (n : Int) (x4 : Option ma_V) (x5 : Option ma_V) (x6 : Option ma_V), (0 ≤ u) → (u ≤ 4) → (4 - u < m) → (n ≤ 6 * tt + pu u) → (FE E fi n (16 * tt + 4 * u)) → ma_J none mX12_layEdges (d + 3) 0 0 16 [some (vr 73), some (vr a), some (vi tt), some (vi u), x4, x5, x6] [] (ma_up (ma_up h 88 (ci 48 fi)) 73 (co 12 (mo (iu I 22 n)))) nx Q := by
  have ht := hG.1
  intro m
  induction m with
  | zero => intro u fi n x4 x5 x6 u0 u1 u2 hb hF; omega
  | succ m ih =>
    intro u fi n x4 x5 x6 u0 u1 u2 hb hF
    refine ma_iload_n dX12_layEdges_16 rfl ?_
    refine ma_iconst dX12_layEdges_17 ?_
    refine ma_rcmp_ge 122 dX12_layEdges_18 rfl (by constructor <;> omega) (by constructor <;> omega) (fun c18 => ?_) (fun c18 => ?_)
    · -- 122
      have e4 : u = 4 := by omega
      subst e4
      exact KO fi n _ _ _ (by have : pu 4 = 6 := rfl; omega) (by rw [show 16 * tt + 16 = 16 * tt + 4 * 4 by omega]; exact hF)
    · -- 21
      refine ma_iload_n dX12_layEdges_21 rfl ?_
      refine ma_iconst dX12_layEdges_22 ?_
      refine ma_iadd dX12_layEdges_23 ?_
      refine ma_istoreN dX12_layEdges_24 (by decide) rfl ?_
      refine l_lE26 hM ha na hG hA h86 hB t0 ⟨u0, by omega⟩ (fun fi' n' x5' x6' hb' hF' => ?_) 5 (u + 1) fi n _ _ (by omega) (by omega) (by omega) (by omega) (by have q := fe_sk (u + 1).toNat (by omega) hF (fun x x0 x1 z => by have := z.1; omega); rw [show 16 * tt + 4 * u + (((u + 1).toNat : Nat) : Int) = 16 * tt + 4 * u + (u + 1) by omega] at q; exact q)
      refine ma_iincN dX12_layEdges_116 rfl (by decide) rfl ?_
      refine ma_goto 16 dX12_layEdges_119 rfl ?_
      exact ih (u + 1) fi' n' _ _ _ (by omega) (by omega) (by omega) hb' (by rw [show 16 * tt + 4 * (u + 1) = 16 * tt + 4 * u + 4 by omega]; exact hF')
set_option maxHeartbeats 2000000 in
theorem l_lE7 {h : ma_H} {a nx d : Nat} {t : Int} {G Aa E P F R : Int → Int} {Q : Option ma_V → ma_H → Nat → Prop} {I : Nat → Int} (hM : h 73 = co 12 (mo I)) (ha : h a = ci 33 Aa) (na : a ≠ 88 ∧ a ≠ 73) (hG : VG t G) (hA : AG t G Aa) (h86 : h 86 = ci 128 F) (hB : BQ t G E P F R) (K : ∀ fi n, n ≤ 48 → FE E fi n (16 * t) → Q none (ma_up (ma_up h 88 (ci 48 fi)) 73 (co 12 (mo (iu I 22 n)))) nx) :
    ∀ (m : Nat) (tt : Int) (fi : Int → Int) (n : Int) (x3 : Option ma_V) (x4 : Option ma_V) (x5 : Option ma_V) (x6 : Option ma_V), (0 ≤ tt) → (tt ≤ t) → (t - tt < m) → (n ≤ 6 * tt) → (FE E fi n (16 * tt)) → ma_J none mX12_layEdges (d + 3) 0 0 7 [some (vr 73), some (vr a), some (vi tt), x3, x4, x5, x6] [] (ma_up (ma_up h 88 (ci 48 fi)) 73 (co 12 (mo (iu I 22 n)))) nx Q := by
  have ht := hG.1
  intro m
  induction m with
  | zero => intro tt fi n x3 x4 x5 x6 t0 t1 t2 hb hF; omega
  | succ m ih =>
    intro tt fi n x3 x4 x5 x6 t0 t1 t2 hb hF
    refine ma_iload_n dX12_layEdges_7 rfl ?_
    refine ma_aload_n dX12_layEdges_8 rfl ?_
    refine ma_iconst dX12_layEdges_9 ?_
    refine ma_iald dX12_layEdges_10 (by first | exact ma_up_s _ _ _ | exact (ma_up_n (by decide)).trans (ma_up_s _ _ _) | exact (ma_up_n (by first | decide | omega)).trans ((ma_up_n (by first | decide | omega)).trans (by assumption))) (by omega) (by omega) (by omega) ?_
    rw [hA.1]
    refine ma_rcmp_ge 128 dX12_layEdges_11 rfl (by constructor <;> omega) (by constructor <;> omega) (fun c11 => ?_) (fun c11 => ?_)
    · -- 128
      have e4 : tt = t := by omega
      rw [e4] at hF
      exact ma_vret dX12_layEdges_128 rfl (K fi n (by omega) hF)
    · -- 14
      refine ma_iconst dX12_layEdges_14 ?_
      refine ma_istore_nN dX12_layEdges_15 (by decide) rfl ?_
      refine l_lE16 hM ha na hG hA h86 hB ⟨t0, by omega⟩ (fun fi' n' x4' x5' x6' hb' hF' => ?_) 5 0 fi n _ _ _ (by omega) (by omega) (by omega) (by have : pu 0 = 0 := rfl; omega) (by rw [show 16 * tt + 4 * 0 = 16 * tt by omega]; exact hF)
      refine ma_iincN dX12_layEdges_122 rfl (by decide) rfl ?_
      refine ma_goto 7 dX12_layEdges_125 rfl ?_
      exact ih (tt + 1) fi' n' _ _ _ _ (by omega) (by omega) (by omega) (by omega) (by rw [show 16 * (tt + 1) = 16 * tt + 16 by omega]; exact hF')
theorem c_X12_layEdges {h : ma_H} {a nx d : Nat} {t : Int} {G Aa E P F R : Int → Int} {Q : Option ma_V → ma_H → Nat → Prop} {I : Nat → Int} {fi0 : Int → Int} (hM : h 73 = co 12 (mo I)) (ha : h a = ci 33 Aa) (na : a ≠ 88 ∧ a ≠ 73) (hG : VG t G) (hA : AG t G Aa) (h86 : h 86 = ci 128 F) (hB : BQ t G E P F R) (h88 : h 88 = ci 48 fi0) (K : ∀ fi n, n ≤ 48 → FE E fi n (16 * t) → Q none (ma_up (ma_up h 88 (ci 48 fi)) 73 (co 12 (mo (iu I 22 n)))) nx) : ma_Ct mX12_layEdges (d + 3) 0 0 [vr 73, vr a] h nx Q := by
  have ht := hG.1
  refine ma_Ct.of (by decide +kernel) (Nat.le_of_ble_eq_true rfl) ?_
  rw [show h = ma_up h 88 (ci 48 fi0) from (ma_up_id h88).symm]
  refine ma_aload_n dX12_layEdges_0 rfl ?_
  refine ma_iconst dX12_layEdges_1 ?_
  refine ma_puti dX12_layEdges_2 fX12_300 (by exact (ma_up_n (by decide)).trans hM) (Nat.le_of_ble_eq_true rfl) ?_
  rw [mo_22]
  refine ma_iconst dX12_layEdges_5 ?_
  refine ma_istore_nN dX12_layEdges_6 (by decide) rfl ?_
  exact l_lE7 hM ha na hG hA h86 hB K 9 0 fi0 0 _ _ _ _ (by omega) (by omega) (by omega) (by omega) fe_0
