theorem bf_conn {t : Int} {G : Int → Int} {S : BS} {i : Int} (hG : VG t G) (hC : CN t G) (I : BI t G S i) (i0 : 0 ≤ i) (i1 : i < 4 * t) : i / 4 < S.1 := by
  rcases Int.lt_or_le (i / 4) S.1 with h | h
  · exact h
  exfalso
  obtain ⟨I1, I2, I3, I4, I5⟩ := I
  have e : i = 4 * S.1 := by
    rcases Int.lt_or_le 0 i with z | z
    · have := (I5 (i - 1) (by omega) (by omega)).1
      omega
    · omega
  have all := hC (fun s => 0 ≤ S.2.1 s ∧ 0 ≤ s ∧ s < t) ⟨S.2.2.1 0, (I2 0 (by omega) (by omega)).1, (I2 0 (by omega) (by omega)).2.1, by have := I2 0 (by omega) (by omega); exact ⟨by omega, by omega, by omega⟩⟩ (by
    intro k k0 k1 hk hg
    obtain ⟨m0, a0, a1⟩ := hk
    have I3' := I3 (k / 4) a0 a1
    have hj : S.2.1 (k / 4) < S.1 ∧ S.2.2.1 (S.2.1 (k / 4)) = k / 4 := by
      rcases I3' with z | z
      · omega
      · exact z.2
    have hn := I4 (k / 4) a0 a1 m0
    have hm := im_in hn.1 hn.2 (show 0 ≤ k % 4 by omega) (show k % 4 < 4 by omega)
    have hmi := im_mi hn.1 hn.2 (show 0 ≤ k % 4 by omega) (show k % 4 < 4 by omega)
    have h5 := I5 (4 * S.2.1 (k / 4) + im (S.2.2.2 (k / 4)) (k % 4)) (by omega) (by omega)
    have e1 : (4 * S.2.1 (k / 4) + im (S.2.2.2 (k / 4)) (k % 4)) / 4 = S.2.1 (k / 4) := by omega
    have e2 : (4 * S.2.1 (k / 4) + im (S.2.2.2 (k / 4)) (k % 4)) % 4 = im (S.2.2.2 (k / 4)) (k % 4) := by omega
    have e3 : bq G S (4 * S.2.1 (k / 4) + im (S.2.2.2 (k / 4)) (k % 4)) = G k := by
      unfold bq
      rw [e1, e2, hj.2, hmi.1]
      congr 1
      omega
    rw [e3] at h5
    have h6 := h5.2 hg
    refine ⟨h6, by omega, ?_⟩
    rcases hG.2.1 k k0 k1 with z | z
    · omega
    · exact z.2.1)
  have key : t.toNat ≤ S.1.toNat := by
    refine bf_pig S.1.toNat t.toNat (fun s => (S.2.1 s).toNat) (fun s hs => ?_) (fun s r hs hr e => ?_)
    · show (S.2.1 s).toNat < S.1.toNat
      have a := all s (by omega) (by omega)
      rcases I3 s (by omega) (by omega) with z | z <;> omega
    · have e : (S.2.1 s).toNat = (S.2.1 r).toNat := e
      have a := all s (by omega) (by omega)
      have b := all r (by omega) (by omega)
      have e2 : S.2.1 s = S.2.1 r := by omega
      rcases I3 s (by omega) (by omega) with z | z
      · omega
      · rcases I3 r (by omega) (by omega) with y | y
        · omega
        · have h1 := z.2.2
          rw [e2, y.2.2] at h1
          omega
  omega
theorem bf_step {t : Int} {G : Int → Int} {S : BS} {i : Int} (hG : VG t G) (I : BI t G S i) (i0 : 0 ≤ i) (hi : i / 4 < S.1) : BI t G (bstep G S i) (i + 1) ∧ (0 ≤ bq G S i → 0 ≤ (bstep G S i).2.1 (bq G S i / 32) ∧ (bstep G S i).2.1 (bq G S i / 32) < t ∧ 0 ≤ (bstep G S i).2.2.2 (bq G S i / 32) ∧ (bstep G S i).2.2.2 (bq G S i / 32) < 24) := by
  obtain ⟨⟨a0, a1⟩, ⟨v0, v1⟩, ⟨m0, m1⟩, hq⟩ := bf_ok hG I i0 hi
  have J := I
  obtain ⟨I1, I2, I3, I4, I5⟩ := I
  unfold bstep
  by_cases hc : bq G S i < 0
  · rw [if_pos hc]
    refine ⟨⟨I1, I2, I3, I4, fun q q0 q1 => ?_⟩, fun z => by omega⟩
    rcases Int.lt_or_eq_of_le (show q ≤ i by omega) with z | z
    · exact I5 q q0 z
    · subst z
      exact ⟨hi, fun z => by omega⟩
  · rw [if_neg hc]
    obtain ⟨q0, q1, q2, q3, q4⟩ : 0 ≤ bq G S i ∧ 0 ≤ bq G S i / 32 ∧ bq G S i / 32 < t ∧ 0 ≤ bq G S i % 32 ∧ bq G S i % 32 < 24 := by
      rcases hq with z | z
      · omega
      · exact z
    by_cases hn : S.2.1 (bq G S i / 32) < 0
    · rw [if_pos hn]
      generalize hs : bq G S i / 32 = s at *
      have hr := bf_room J q1 q2 hn
      have hp : 0 ≤ bp G S i ∧ bp G S i < 24 := af_in q3 q4 v0 v1
      have hip := iv_in hp.1 hp.2
      have ne : ∀ j, 0 ≤ j → j < S.1 → S.2.2.1 j ≠ s := fun j j0 j1 z => by
        have := (I2 j j0 j1).2.2
        rw [z] at this
        omega
      refine ⟨⟨⟨by show 1 ≤ S.1 + 1; omega, by show S.1 + 1 ≤ t; omega⟩, fun j j0 j1 => ?_, fun r r0 r1 => ?_, fun r r0 r1 r2 => ?_, fun q z0 z1 => ?_⟩, fun _ => ?_⟩
      · have j1 : j < S.1 + 1 := j1
        show 0 ≤ uf S.2.2.1 S.1 s j ∧ uf S.2.2.1 S.1 s j < t ∧ uf S.2.1 s S.1 (uf S.2.2.1 S.1 s j) = j
        by_cases z : j = S.1
        · subst z
          rw [uf_s, uf_s]
          exact ⟨q1, q2, rfl⟩
        · rw [uf_n z, uf_n (ne j j0 (by omega))]
          exact I2 j j0 (by omega)
      · show uf S.2.1 s S.1 r = -1 ∨ (0 ≤ uf S.2.1 s S.1 r ∧ uf S.2.1 s S.1 r < S.1 + 1 ∧ uf S.2.2.1 S.1 s (uf S.2.1 s S.1 r) = r)
        by_cases z : r = s
        · subst z
          rw [uf_s, uf_s]
          exact Or.inr ⟨by omega, by omega, rfl⟩
        · rw [uf_n z]
          rcases I3 r r0 r1 with y | y
          · exact Or.inl y
          · rw [uf_n (show S.2.1 r ≠ S.1 by omega)]
            exact Or.inr ⟨y.1, by omega, y.2.2⟩
      · have r2 : 0 ≤ uf S.2.1 s S.1 r := r2
        show 0 ≤ uf S.2.2.2 s (iv (bp G S i)) r ∧ uf S.2.2.2 s (iv (bp G S i)) r < 24
        by_cases z : r = s
        · subst z
          rw [uf_s]
          exact hip
        · rw [uf_n z] at r2 ⊢
          exact I4 r r0 r1 r2
      · have hq4 : q / 4 < S.1 := by
          rcases Int.lt_or_eq_of_le (show q ≤ i by omega) with z | z
          · exact (I5 q z0 z).1
          · subst z; exact hi
        have e1 : uf S.2.2.1 S.1 s (q / 4) = S.2.2.1 (q / 4) := uf_n (by omega)
        have e2 : uf S.2.2.2 s (iv (bp G S i)) (S.2.2.1 (q / 4)) = S.2.2.2 (S.2.2.1 (q / 4)) := uf_n (ne _ (by omega) hq4)
        have e3 : bq G (S.1 + 1, uf S.2.1 s S.1, uf S.2.2.1 S.1 s, uf S.2.2.2 s (iv (bp G S i))) q = bq G S q := by
          show G (4 * uf S.2.2.1 S.1 s (q / 4) + im (iv (uf S.2.2.2 s (iv (bp G S i)) (uf S.2.2.1 S.1 s (q / 4)))) (q % 4)) = _
          rw [e1, e2]
          rfl
        rw [e3]
        refine ⟨by show q / 4 < S.1 + 1; omega, fun y => ?_⟩
        show 0 ≤ uf S.2.1 s S.1 (bq G S q / 32)
        by_cases w : bq G S q / 32 = s
        · rw [w, uf_s]
          omega
        · rw [uf_n w]
          rcases Int.lt_or_eq_of_le (show q ≤ i by omega) with z | z
          · exact (I5 q z0 z).2 y
          · subst z
            exact absurd hs w
      · show 0 ≤ uf S.2.1 s S.1 s ∧ uf S.2.1 s S.1 s < t ∧ 0 ≤ uf S.2.2.2 s (iv (bp G S i)) s ∧ uf S.2.2.2 s (iv (bp G S i)) s < 24
        rw [uf_s, uf_s]
        exact ⟨by omega, by omega, hip.1, hip.2⟩
    · rw [if_neg hn]
      have hb := I4 _ q1 q2 (by omega)
      have hb3 := I3 _ q1 q2
      refine ⟨⟨I1, I2, I3, I4, fun q z0 z1 => ?_⟩, fun _ => ⟨by omega, by omega, hb.1, hb.2⟩⟩
      rcases Int.lt_or_eq_of_le (show q ≤ i by omega) with z | z
      · exact I5 q z0 z
      · subst z
        exact ⟨hi, fun _ => by omega⟩
theorem bf_all {t : Int} {G : Int → Int} {f p : Int} (hG : VG t G) (hC : CN t G) (hf : 0 ≤ f ∧ f < t) (hp : 0 ≤ p ∧ p < 24) : ∀ i : Nat, (i : Int) ≤ 4 * t → BI t G (bst G f p i) i
  | 0, _ => bf_0 hG.1.1 hf hp
  | i + 1, h => by
    have ih := bf_all hG hC hf hp i (by omega)
    exact (bf_step hG ih (by omega) (bf_conn hG hC ih (by omega) (by omega))).1
