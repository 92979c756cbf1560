/-- the least f where c is above 0, the greatest f -/
def lf (c f : Int → Int) (b : Int) : Nat → Int
  | 0 => b
  | n + 1 => if 0 < c n then (if f n < lf c f b n then f n else lf c f b n) else lf c f b n
def gf (f : Int → Int) : Nat → Int
  | 0 => 0
  | n + 1 => if gf f n < f n then f n else gf f n
theorem lf_y {c f : Int → Int} {b k : Int} (k0 : 0 ≤ k) (h : 0 < c k) : lf c f b (k + 1).toNat = if f k < lf c f b k.toNat then f k else lf c f b k.toNat := by
  rw [show (k + 1).toNat = k.toNat + 1 by omega]
  show (if 0 < c (k.toNat : Int) then (if f (k.toNat : Int) < lf c f b k.toNat then f (k.toNat : Int) else lf c f b k.toNat) else lf c f b k.toNat) = _
  rw [Int.toNat_of_nonneg k0, if_pos h]
theorem lf_n {c f : Int → Int} {b k : Int} (k0 : 0 ≤ k) (h : ¬ 0 < c k) : lf c f b (k + 1).toNat = lf c f b k.toNat := by
  rw [show (k + 1).toNat = k.toNat + 1 by omega]
  show (if 0 < c (k.toNat : Int) then (if f (k.toNat : Int) < lf c f b k.toNat then f (k.toNat : Int) else lf c f b k.toNat) else lf c f b k.toNat) = _
  rw [Int.toNat_of_nonneg k0, if_neg h]
theorem gf_s {f : Int → Int} {k : Int} (k0 : 0 ≤ k) : gf f (k + 1).toNat = if gf f k.toNat < f k then f k else gf f k.toNat := by
  rw [show (k + 1).toNat = k.toNat + 1 by omega]
  show (if gf f k.toNat < f (k.toNat : Int) then f (k.toNat : Int) else gf f k.toNat) = _
  rw [Int.toNat_of_nonneg k0]
theorem lf_b {c f : Int → Int} {b : Int} (hf : ∀ i, 0 ≤ i → i < 128 → -1000000 ≤ f i ∧ f i ≤ 1000000) (hb : 0 ≤ b ∧ b ≤ 1073741824) : ∀ n : Nat, n ≤ 128 → -1000000 ≤ lf c f b n ∧ lf c f b n ≤ 1073741824
  | 0, _ => by show -1000000 ≤ b ∧ b ≤ 1073741824; omega
  | n + 1, h => by
    have i := lf_b (c := c) hf hb n (by omega)
    have j := hf n (by omega) (by omega)
    unfold lf
    split
    · split <;> omega
    · exact i
theorem gf_b {f : Int → Int} (hf : ∀ i, 0 ≤ i → i < 128 → 0 ≤ f i ∧ f i ≤ 1000000) : ∀ n : Nat, n ≤ 128 → 0 ≤ gf f n ∧ gf f n ≤ 1000000
  | 0, _ => by show (0 : Int) ≤ 0 ∧ (0 : Int) ≤ 1000000; omega
  | n + 1, h => by
    have i := gf_b hf n (by omega)
    have j := hf n (by omega) (by omega)
    unfold gf
    split <;> omega
set_option maxHeartbeats 2000000 in
theorem l_X7_leastDegree {h : ma_H} {nx d : Nat} {E X D F P Z N S q : Int → Int} {ec pc : Int} {Q : Option ma_V → ma_H → Nat → Prop} (hD : ∀ i, 0 ≤ i → i < 128 → 0 ≤ D i ∧ D i ≤ 1000000) (K : Q (some (vi (lf D D 1073741824 128))) (bh h E X D F P Z N S q ec pc) nx) :
    ∀ (m : Nat) (k : Int) (n : Int), (0 ≤ k) → (k ≤ 128) → (128 - k < m) → (n = lf D D 1073741824 k.toNat) → ma_J none mX7_leastDegree (d + 1) 0 0 5 [some (vr 44), some (vi n), some (vi k)] [] (bh h E X D F P Z N S q ec pc) nx Q := by
  intro m
  induction m with
  | zero => intro k n k0 k1 k2 hn; omega
  | succ m ih =>
    intro k n k0 k1 k2 hn
    refine ma_iload_n dX7_leastDegree_5 rfl ?_
    refine ma_sipush dX7_leastDegree_6 ?_
    refine ma_rcmp_ge 38 dX7_leastDegree_9 rfl (by constructor <;> omega) (by constructor <;> omega) (fun c9 => ?_) (fun c9 => ?_)
    · -- 38
      refine ma_iload_n dX7_leastDegree_38 rfl ?_
      have e4 : k = 128 := by omega
      subst e4
      rw [hn]
      exact ma_iret dX7_leastDegree_39 rfl K
    · -- 12
      refine ma_aload_n dX7_leastDegree_12 rfl ?_
      refine ma_getf dX7_leastDegree_13 fX7_18 (by first | exact bh_45 | exact bh_46 | exact bh_47 | exact bh_48 | exact bh_49 | exact bh_50 | exact bh_51 | exact bh_52 | exact bh_53 | exact bh_44 | exact (bh_n (by first | assumption | omega)).trans (by assumption)) (by rfl) ?_
      refine ma_iload_n dX7_leastDegree_16 rfl ?_
      refine ma_iald dX7_leastDegree_17 (by first | exact bh_45 | exact bh_46 | exact bh_47 | exact bh_48 | exact bh_49 | exact bh_50 | exact bh_51 | exact bh_52 | exact bh_53 | exact bh_44 | exact (bh_n (by first | assumption | omega)).trans (by assumption)) (by omega) (by omega) (by omega) ?_
      have hd := hD k k0 (by omega)
      have hl := lf_b (c := D) (f := D) (b := 1073741824) (fun i a b => by have := hD i a b; omega) (by decide) k.toNat (by omega)
      rw [← hn] at hl
      refine ma_rif_le 32 dX7_leastDegree_18 rfl (by constructor <;> omega) (fun c18 => ?_) (fun c18 => ?_)
      · -- 32
        refine ma_iincN dX7_leastDegree_32 rfl (by decide) rfl ?_
        refine ma_goto 5 dX7_leastDegree_35 rfl ?_
        exact ih (k + 1) _ (by omega) (by omega) (by omega) (by rw [lf_n k0 (by omega)]; exact hn)
      · -- 21
        refine ma_iload_n dX7_leastDegree_21 rfl ?_
        refine ma_aload_n dX7_leastDegree_22 rfl ?_
        refine ma_getf dX7_leastDegree_23 fX7_18 (by first | exact bh_45 | exact bh_46 | exact bh_47 | exact bh_48 | exact bh_49 | exact bh_50 | exact bh_51 | exact bh_52 | exact bh_53 | exact bh_44 | exact (bh_n (by first | assumption | omega)).trans (by assumption)) (by rfl) ?_
        refine ma_iload_n dX7_leastDegree_26 rfl ?_
        refine ma_iald dX7_leastDegree_27 (by first | exact bh_45 | exact bh_46 | exact bh_47 | exact bh_48 | exact bh_49 | exact bh_50 | exact bh_51 | exact bh_52 | exact bh_53 | exact bh_44 | exact (bh_n (by first | assumption | omega)).trans (by assumption)) (by omega) (by omega) (by omega) ?_
        refine ma_cS [_, _] dX7_leastDegree_28 wJ9_min_7cf53 lX7_85 tJ9_min_7cf53 (Nat.le_of_ble_eq_true rfl) ?_
        refine c_J9_min_7cf53 (by constructor <;> omega) (by constructor <;> omega) ?_
        refine ma_istore_nN dX7_leastDegree_31 (by decide) rfl ?_
        refine ma_iincN dX7_leastDegree_32 rfl (by decide) rfl ?_
        refine ma_goto 5 dX7_leastDegree_35 rfl ?_
        exact ih (k + 1) _ (by omega) (by omega) (by omega) (by rw [lf_y k0 (by omega), ← hn])
theorem c_X7_leastDegree {h : ma_H} {nx d : Nat} {E X D F P Z N S q : Int → Int} {ec pc : Int} {Q : Option ma_V → ma_H → Nat → Prop} (hD : ∀ i, 0 ≤ i → i < 128 → 0 ≤ D i ∧ D i ≤ 1000000) (K : Q (some (vi (lf D D 1073741824 128))) (bh h E X D F P Z N S q ec pc) nx) : ma_Ct mX7_leastDegree (d + 1) 0 0 [vr 44] (bh h E X D F P Z N S q ec pc) nx Q := by
  refine ma_Ct.of (by decide +kernel) (Nat.le_of_ble_eq_true rfl) ?_
  refine ma_ldc (n := 1073741824) dX7_leastDegree_0 vX7_94 (by decide +kernel) ?_
  refine ma_istore_nN dX7_leastDegree_2 (by decide) rfl ?_
  refine ma_iconst dX7_leastDegree_3 ?_
  refine ma_istore_nN dX7_leastDegree_4 (by decide) rfl ?_
  exact l_X7_leastDegree hD K 129 0 1073741824 (by omega) (by omega) (by omega) rfl
set_option maxHeartbeats 2000000 in
theorem l_X7_greatestDegree {h : ma_H} {nx d : Nat} {E X D F P Z N S q : Int → Int} {ec pc : Int} {Q : Option ma_V → ma_H → Nat → Prop} (hD : ∀ i, 0 ≤ i → i < 128 → 0 ≤ D i ∧ D i ≤ 1000000) (K : Q (some (vi (gf D 128))) (bh h E X D F P Z N S q ec pc) nx) :
    ∀ (m : Nat) (k : Int) (n : Int), (0 ≤ k) → (k ≤ 128) → (128 - k < m) → (n = gf D k.toNat) → ma_J none mX7_greatestDegree (d + 1) 0 0 4 [some (vr 44), some (vi n), some (vi k)] [] (bh h E X D F P Z N S q ec pc) nx Q := by
  intro m
  induction m with
  | zero => intro k n k0 k1 k2 hn; omega
  | succ m ih =>
    intro k n k0 k1 k2 hn
    refine ma_iload_n dX7_greatestDegree_4 rfl ?_
    refine ma_sipush dX7_greatestDegree_5 ?_
    refine ma_rcmp_ge 28 dX7_greatestDegree_8 rfl (by constructor <;> omega) (by constructor <;> omega) (fun c8 => ?_) (fun c8 => ?_)
    · -- 28
      refine ma_iload_n dX7_greatestDegree_28 rfl ?_
      have e4 : k = 128 := by omega
      subst e4
      rw [hn]
      exact ma_iret dX7_greatestDegree_29 rfl K
    · -- 11
      refine ma_iload_n dX7_greatestDegree_11 rfl ?_
      refine ma_aload_n dX7_greatestDegree_12 rfl ?_
      refine ma_getf dX7_greatestDegree_13 fX7_18 (by first | exact bh_45 | exact bh_46 | exact bh_47 | exact bh_48 | exact bh_49 | exact bh_50 | exact bh_51 | exact bh_52 | exact bh_53 | exact bh_44 | exact (bh_n (by first | assumption | omega)).trans (by assumption)) (by rfl) ?_
      refine ma_iload_n dX7_greatestDegree_16 rfl ?_
      refine ma_iald dX7_greatestDegree_17 (by first | exact bh_45 | exact bh_46 | exact bh_47 | exact bh_48 | exact bh_49 | exact bh_50 | exact bh_51 | exact bh_52 | exact bh_53 | exact bh_44 | exact (bh_n (by first | assumption | omega)).trans (by assumption)) (by omega) (by omega) (by omega) ?_
      have hd := hD k k0 (by omega)
      have hl := gf_b hD k.toNat (by omega)
      rw [← hn] at hl
      refine ma_cS [_, _] dX7_greatestDegree_18 wJ9_max_7cf53 lX7_95 tJ9_max_7cf53 (Nat.le_of_ble_eq_true rfl) ?_
      refine c_J9_max_7cf53 (by constructor <;> omega) (by constructor <;> omega) ?_
      refine ma_istore_nN dX7_greatestDegree_21 (by decide) rfl ?_
      refine ma_iincN dX7_greatestDegree_22 rfl (by decide) rfl ?_
      refine ma_goto 4 dX7_greatestDegree_25 rfl ?_
      exact ih (k + 1) _ (by omega) (by omega) (by omega) (by rw [gf_s k0, ← hn])
theorem c_X7_greatestDegree {h : ma_H} {nx d : Nat} {E X D F P Z N S q : Int → Int} {ec pc : Int} {Q : Option ma_V → ma_H → Nat → Prop} (hD : ∀ i, 0 ≤ i → i < 128 → 0 ≤ D i ∧ D i ≤ 1000000) (K : Q (some (vi (gf D 128))) (bh h E X D F P Z N S q ec pc) nx) : ma_Ct mX7_greatestDegree (d + 1) 0 0 [vr 44] (bh h E X D F P Z N S q ec pc) nx Q := by
  refine ma_Ct.of (by decide +kernel) (Nat.le_of_ble_eq_true rfl) ?_
  refine ma_iconst dX7_greatestDegree_0 ?_
  refine ma_istore_nN dX7_greatestDegree_1 (by decide) rfl ?_
  refine ma_iconst dX7_greatestDegree_2 ?_
  refine ma_istore_nN dX7_greatestDegree_3 (by decide) rfl ?_
  exact l_X7_greatestDegree hD K 129 0 0 (by omega) (by omega) (by omega) rfl
set_option maxHeartbeats 2000000 in
theorem l_X7_edgesOfDegree {h : ma_H} {nx d : Nat} {E X D F P Z N S q : Int → Int} {ec pc : Int} {Q : Option ma_V → ma_H → Nat → Prop} {w : Int} (hD : ∀ i, 0 ≤ i → i < 128 → 0 ≤ D i ∧ D i ≤ 1000000) (hw : -1000000 ≤ w ∧ w ≤ 1073741824) (K : Q (some (vi (ct (fun i => D i = w) 128))) (bh h E X D F P Z N S q ec pc) nx) :
    ∀ (m : Nat) (k : Int) (n : Int), (0 ≤ k) → (k ≤ 128) → (128 - k < m) → (n = ct (fun i => D i = w) k.toNat) → ma_J none mX7_edgesOfDegree (d) 0 0 4 [some (vr 44), some (vi w), some (vi n), some (vi k)] [] (bh h E X D F P Z N S q ec pc) nx Q := by
  intro m
  induction m with
  | zero => intro k n k0 k1 k2 hn; omega
  | succ m ih =>
    intro k n k0 k1 k2 hn
    refine ma_iload_n dX7_edgesOfDegree_4 rfl ?_
    refine ma_sipush dX7_edgesOfDegree_5 ?_
    refine ma_rcmp_ge 30 dX7_edgesOfDegree_8 rfl (by constructor <;> omega) (by constructor <;> omega) (fun c8 => ?_) (fun c8 => ?_)
    · -- 30
      refine ma_iload_n dX7_edgesOfDegree_30 rfl ?_
      have e4 : k = 128 := by omega
      subst e4
      rw [hn]
      exact ma_iret dX7_edgesOfDegree_31 rfl K
    · -- 11
      refine ma_aload_n dX7_edgesOfDegree_11 rfl ?_
      refine ma_getf dX7_edgesOfDegree_12 fX7_18 (by first | exact bh_45 | exact bh_46 | exact bh_47 | exact bh_48 | exact bh_49 | exact bh_50 | exact bh_51 | exact bh_52 | exact bh_53 | exact bh_44 | exact (bh_n (by first | assumption | omega)).trans (by assumption)) (by rfl) ?_
      refine ma_iload_n dX7_edgesOfDegree_15 rfl ?_
      refine ma_iald dX7_edgesOfDegree_16 (by first | exact bh_45 | exact bh_46 | exact bh_47 | exact bh_48 | exact bh_49 | exact bh_50 | exact bh_51 | exact bh_52 | exact bh_53 | exact bh_44 | exact (bh_n (by first | assumption | omega)).trans (by assumption)) (by omega) (by omega) (by omega) ?_
      have hd := hD k k0 (by omega)
      refine ma_iload_n dX7_edgesOfDegree_17 rfl ?_
      refine ma_rcmp_ne 24 dX7_edgesOfDegree_18 rfl (by constructor <;> omega) (by constructor <;> omega) (fun c18 => ?_) (fun c18 => ?_)
      · -- 24
        refine ma_iincN dX7_edgesOfDegree_24 rfl (by decide) rfl ?_
        refine ma_goto 4 dX7_edgesOfDegree_27 rfl ?_
        exact ih (k + 1) _ (by omega) (by omega) (by omega) (by rw [ct_n (P := fun i => D i = w) k0 c18]; exact hn)
      · -- 21
        refine ma_iincN dX7_edgesOfDegree_21 rfl (by decide) rfl ?_
        refine ma_iincN dX7_edgesOfDegree_24 rfl (by decide) rfl ?_
        refine ma_goto 4 dX7_edgesOfDegree_27 rfl ?_
        exact ih (k + 1) _ (by omega) (by omega) (by omega) (by rw [ct_y (P := fun i => D i = w) k0 (by omega), ← hn])
theorem c_X7_edgesOfDegree {h : ma_H} {nx d : Nat} {E X D F P Z N S q : Int → Int} {ec pc : Int} {Q : Option ma_V → ma_H → Nat → Prop} {w : Int} (hD : ∀ i, 0 ≤ i → i < 128 → 0 ≤ D i ∧ D i ≤ 1000000) (hw : -1000000 ≤ w ∧ w ≤ 1073741824) (K : Q (some (vi (ct (fun i => D i = w) 128))) (bh h E X D F P Z N S q ec pc) nx) : ma_Ct mX7_edgesOfDegree (d) 0 0 [vr 44, vi w] (bh h E X D F P Z N S q ec pc) nx Q := by
  refine ma_Ct.of (by decide +kernel) (Nat.le_of_ble_eq_true rfl) ?_
  refine ma_iconst dX7_edgesOfDegree_0 ?_
  refine ma_istore_nN dX7_edgesOfDegree_1 (by decide) rfl ?_
  refine ma_iconst dX7_edgesOfDegree_2 ?_
  refine ma_istore_nN dX7_edgesOfDegree_3 (by decide) rfl ?_
  exact l_X7_edgesOfDegree hD hw K 129 0 0 (by omega) (by omega) (by omega) rfl
set_option maxHeartbeats 2000000 in
theorem l_X7_reversedEdges {h : ma_H} {nx d : Nat} {E X D F P Z N S q : Int → Int} {ec pc : Int} {Q : Option ma_V → ma_H → Nat → Prop} (hD : ∀ i, 0 ≤ i → i < 128 → 0 ≤ D i ∧ D i ≤ 1000000) (hE : ∀ x, 0 ≤ x → x < 128 → -1 ≤ E x ∧ E x < 128) (K : Q (some (vi (ct (fun i => 0 < D i ∧ E i = E (tr i)) 128))) (bh h E X D F P Z N S q ec pc) nx) :
    ∀ (m : Nat) (k : Int) (n : Int), (0 ≤ k) → (k ≤ 128) → (128 - k < m) → (n = ct (fun i => 0 < D i ∧ E i = E (tr i)) k.toNat) → ma_J none mX7_reversedEdges (d + 2) 0 0 4 [some (vr 44), some (vi n), some (vi k)] [] (bh h E X D F P Z N S q ec pc) nx Q := by
  intro m
  induction m with
  | zero => intro k n k0 k1 k2 hn; omega
  | succ m ih =>
    intro k n k0 k1 k2 hn
    refine ma_iload_n dX7_reversedEdges_4 rfl ?_
    refine ma_sipush dX7_reversedEdges_5 ?_
    refine ma_rcmp_ge 37 dX7_reversedEdges_8 rfl (by constructor <;> omega) (by constructor <;> omega) (fun c8 => ?_) (fun c8 => ?_)
    · -- 37
      refine ma_iload_n dX7_reversedEdges_37 rfl ?_
      have e4 : k = 128 := by omega
      subst e4
      rw [hn]
      exact ma_iret dX7_reversedEdges_38 rfl K
    · -- 11
      refine ma_aload_n dX7_reversedEdges_11 rfl ?_
      refine ma_getf dX7_reversedEdges_12 fX7_18 (by first | exact bh_45 | exact bh_46 | exact bh_47 | exact bh_48 | exact bh_49 | exact bh_50 | exact bh_51 | exact bh_52 | exact bh_53 | exact bh_44 | exact (bh_n (by first | assumption | omega)).trans (by assumption)) (by rfl) ?_
      refine ma_iload_n dX7_reversedEdges_15 rfl ?_
      refine ma_iald dX7_reversedEdges_16 (by first | exact bh_45 | exact bh_46 | exact bh_47 | exact bh_48 | exact bh_49 | exact bh_50 | exact bh_51 | exact bh_52 | exact bh_53 | exact bh_44 | exact (bh_n (by first | assumption | omega)).trans (by assumption)) (by omega) (by omega) (by omega) ?_
      have hd := hD k k0 (by omega)
      refine ma_rif_le 31 dX7_reversedEdges_17 rfl (by constructor <;> omega) (fun c17 => ?_) (fun c17 => ?_)
      · -- 31
        refine ma_iincN dX7_reversedEdges_31 rfl (by decide) rfl ?_
        refine ma_goto 4 dX7_reversedEdges_34 rfl ?_
        exact ih (k + 1) _ (by omega) (by omega) (by omega) (by rw [ct_n (P := (fun i => 0 < D i ∧ E i = E (tr i))) k0 (fun z => by have := z.1; omega)]; exact hn)
      · -- 20
        refine ma_aload_n dX7_reversedEdges_20 rfl ?_
        refine ma_iload_n dX7_reversedEdges_21 rfl ?_
        refine ma_cV [_] dX7_reversedEdges_22 wX7_isReversed lX7_98 iX7_isReversed sX7_isReversed rfl (by first | exact bh_45 | exact bh_46 | exact bh_47 | exact bh_48 | exact bh_49 | exact bh_50 | exact bh_51 | exact bh_52 | exact bh_53 | exact bh_44 | exact (bh_n (by first | assumption | omega)).trans (by assumption)) (Nat.le_of_ble_eq_true rfl) ?_
        refine c_X7_isReversed ⟨k0, by omega⟩ hE (fun hr => ?_) (fun hr => ?_)
        · -- k1
          refine ma_rif_eq 31 dX7_reversedEdges_25 rfl (by decide) (fun c25 => absurd c25 (by decide)) (fun c25 => ?_)
          refine ma_iincN dX7_reversedEdges_28 rfl (by decide) rfl ?_
          refine ma_iincN dX7_reversedEdges_31 rfl (by decide) rfl ?_
          refine ma_goto 4 dX7_reversedEdges_34 rfl ?_
          exact ih (k + 1) _ (by omega) (by omega) (by omega) (by rw [ct_y (P := (fun i => 0 < D i ∧ E i = E (tr i))) k0 ⟨by omega, hr⟩, ← hn])
        · -- k0
          refine ma_rif_eq 31 dX7_reversedEdges_25 rfl (by decide) (fun c25 => ?_) (fun c25 => absurd c25 (by decide))
          refine ma_iincN dX7_reversedEdges_31 rfl (by decide) rfl ?_
          refine ma_goto 4 dX7_reversedEdges_34 rfl ?_
          exact ih (k + 1) _ (by omega) (by omega) (by omega) (by rw [ct_n (P := (fun i => 0 < D i ∧ E i = E (tr i))) k0 (fun z => hr z.2)]; exact hn)
theorem c_X7_reversedEdges {h : ma_H} {nx d : Nat} {E X D F P Z N S q : Int → Int} {ec pc : Int} {Q : Option ma_V → ma_H → Nat → Prop} (hD : ∀ i, 0 ≤ i → i < 128 → 0 ≤ D i ∧ D i ≤ 1000000) (hE : ∀ x, 0 ≤ x → x < 128 → -1 ≤ E x ∧ E x < 128) (K : Q (some (vi (ct (fun i => 0 < D i ∧ E i = E (tr i)) 128))) (bh h E X D F P Z N S q ec pc) nx) : ma_Ct mX7_reversedEdges (d + 2) 0 0 [vr 44] (bh h E X D F P Z N S q ec pc) nx Q := by
  refine ma_Ct.of (by decide +kernel) (Nat.le_of_ble_eq_true rfl) ?_
  refine ma_iconst dX7_reversedEdges_0 ?_
  refine ma_istore_nN dX7_reversedEdges_1 (by decide) rfl ?_
  refine ma_iconst dX7_reversedEdges_2 ?_
  refine ma_istore_nN dX7_reversedEdges_3 (by decide) rfl ?_
  exact l_X7_reversedEdges hD hE K 129 0 0 (by omega) (by omega) (by omega) rfl
set_option maxHeartbeats 2000000 in
theorem l_X7_roundPoints {h : ma_H} {nx d : Nat} {E X D F P Z N S q : Int → Int} {ec pc : Int} {Q : Option ma_V → ma_H → Nat → Prop} (hZ : ∀ i, 0 ≤ i → i < 32 → (0 ≤ Z i ∧ Z i ≤ 128) ∧ (0 ≤ N i ∧ N i ≤ 128) ∧ 0 ≤ S i ∧ S i ≤ 128) (K : Q (some (vi (ct (fun i => 0 < Z i ∧ S i = 0 ∧ xi Z N S i = 2) 32))) (bh h E X D F P Z N S q ec pc) nx) :
    ∀ (m : Nat) (k : Int) (n : Int), (0 ≤ k) → (k ≤ 32) → (32 - k < m) → (n = ct (fun i => 0 < Z i ∧ S i = 0 ∧ xi Z N S i = 2) k.toNat) → ma_J none mX7_roundPoints (d + 2) 0 0 4 [some (vr 44), some (vi n), some (vi k)] [] (bh h E X D F P Z N S q ec pc) nx Q := by
  intro m
  induction m with
  | zero => intro k n k0 k1 k2 hn; omega
  | succ m ih =>
    intro k n k0 k1 k2 hn
    refine ma_iload_n dX7_roundPoints_4 rfl ?_
    refine ma_bipush dX7_roundPoints_5 ?_
    refine ma_rcmp_ge 36 dX7_roundPoints_7 rfl (by constructor <;> omega) (by constructor <;> omega) (fun c7 => ?_) (fun c7 => ?_)
    · -- 36
      refine ma_iload_n dX7_roundPoints_36 rfl ?_
      have e4 : k = 32 := by omega
      subst e4
      rw [hn]
      exact ma_iret dX7_roundPoints_37 rfl K
    · -- 10
      refine ma_aload_n dX7_roundPoints_10 rfl ?_
      refine ma_getf dX7_roundPoints_11 fX7_28 (by first | exact bh_45 | exact bh_46 | exact bh_47 | exact bh_48 | exact bh_49 | exact bh_50 | exact bh_51 | exact bh_52 | exact bh_53 | exact bh_44 | exact (bh_n (by first | assumption | omega)).trans (by assumption)) (by rfl) ?_
      refine ma_iload_n dX7_roundPoints_14 rfl ?_
      refine ma_iald dX7_roundPoints_15 (by first | exact bh_45 | exact bh_46 | exact bh_47 | exact bh_48 | exact bh_49 | exact bh_50 | exact bh_51 | exact bh_52 | exact bh_53 | exact bh_44 | exact (bh_n (by first | assumption | omega)).trans (by assumption)) (by omega) (by omega) (by omega) ?_
      have hz := hZ k k0 (by omega)
      refine ma_rif_le 30 dX7_roundPoints_16 rfl (by constructor <;> omega) (fun c16 => ?_) (fun c16 => ?_)
      · -- 30
        refine ma_iincN dX7_roundPoints_30 rfl (by decide) rfl ?_
        refine ma_goto 4 dX7_roundPoints_33 rfl ?_
        exact ih (k + 1) _ (by omega) (by omega) (by omega) (by rw [ct_n (P := (fun i => 0 < Z i ∧ S i = 0 ∧ xi Z N S i = 2)) k0 (fun z => by have := z.1; omega)]; exact hn)
      · -- 19
        refine ma_aload_n dX7_roundPoints_19 rfl ?_
        refine ma_iload_n dX7_roundPoints_20 rfl ?_
        refine ma_cV [_] dX7_roundPoints_21 wX7_isRound lX7_102 iX7_isRound sX7_isRound rfl (by first | exact bh_45 | exact bh_46 | exact bh_47 | exact bh_48 | exact bh_49 | exact bh_50 | exact bh_51 | exact bh_52 | exact bh_53 | exact bh_44 | exact (bh_n (by first | assumption | omega)).trans (by assumption)) (Nat.le_of_ble_eq_true rfl) ?_
        refine c_X7_isRound ⟨k0, by omega⟩ hz.1 hz.2.1 hz.2.2 (fun hr hr2 => ?_) (fun hr => ?_)
        · -- k1
          refine ma_rif_eq 30 dX7_roundPoints_24 rfl (by decide) (fun c24 => absurd c24 (by decide)) (fun c24 => ?_)
          refine ma_iincN dX7_roundPoints_27 rfl (by decide) rfl ?_
          refine ma_iincN dX7_roundPoints_30 rfl (by decide) rfl ?_
          refine ma_goto 4 dX7_roundPoints_33 rfl ?_
          exact ih (k + 1) _ (by omega) (by omega) (by omega) (by rw [ct_y (P := (fun i => 0 < Z i ∧ S i = 0 ∧ xi Z N S i = 2)) k0 ⟨by omega, hr, hr2⟩, ← hn])
        · -- k0
          refine ma_rif_eq 30 dX7_roundPoints_24 rfl (by decide) (fun c24 => ?_) (fun c24 => absurd c24 (by decide))
          refine ma_iincN dX7_roundPoints_30 rfl (by decide) rfl ?_
          refine ma_goto 4 dX7_roundPoints_33 rfl ?_
          exact ih (k + 1) _ (by omega) (by omega) (by omega) (by rw [ct_n (P := (fun i => 0 < Z i ∧ S i = 0 ∧ xi Z N S i = 2)) k0 (fun z => hr z.2)]; exact hn)
theorem c_X7_roundPoints {h : ma_H} {nx d : Nat} {E X D F P Z N S q : Int → Int} {ec pc : Int} {Q : Option ma_V → ma_H → Nat → Prop} (hZ : ∀ i, 0 ≤ i → i < 32 → (0 ≤ Z i ∧ Z i ≤ 128) ∧ (0 ≤ N i ∧ N i ≤ 128) ∧ 0 ≤ S i ∧ S i ≤ 128) (K : Q (some (vi (ct (fun i => 0 < Z i ∧ S i = 0 ∧ xi Z N S i = 2) 32))) (bh h E X D F P Z N S q ec pc) nx) : ma_Ct mX7_roundPoints (d + 2) 0 0 [vr 44] (bh h E X D F P Z N S q ec pc) nx Q := by
  refine ma_Ct.of (by decide +kernel) (Nat.le_of_ble_eq_true rfl) ?_
  refine ma_iconst dX7_roundPoints_0 ?_
  refine ma_istore_nN dX7_roundPoints_1 (by decide) rfl ?_
  refine ma_iconst dX7_roundPoints_2 ?_
  refine ma_istore_nN dX7_roundPoints_3 (by decide) rfl ?_
  exact l_X7_roundPoints hZ K 33 0 0 (by omega) (by omega) (by omega) rfl
theorem lf_b32 {Z N S : Int → Int} (hZ : ∀ i, 0 ≤ i → i < 32 → (0 ≤ Z i ∧ Z i ≤ 128) ∧ (0 ≤ N i ∧ N i ≤ 128) ∧ 0 ≤ S i ∧ S i ≤ 128) : ∀ n : Nat, n ≤ 32 → -1000000 ≤ lf Z (xi Z N S) 1073741824 n ∧ lf Z (xi Z N S) 1073741824 n ≤ 1073741824
  | 0, _ => by show (-1000000 : Int) ≤ 1073741824 ∧ (1073741824 : Int) ≤ 1073741824; omega
  | n + 1, h => by
    have i := lf_b32 hZ n (by omega)
    have hz := hZ n (by omega) (by omega)
    have hx : -1000000 ≤ xi Z N S n ∧ xi Z N S n ≤ 1000000 := by unfold xi; omega
    unfold lf
    split
    · split <;> omega
    · exact i
set_option maxHeartbeats 2000000 in
theorem l_X7_leastChi {h : ma_H} {nx d : Nat} {E X D F P Z N S q : Int → Int} {ec pc : Int} {Q : Option ma_V → ma_H → Nat → Prop} (hZ : ∀ i, 0 ≤ i → i < 32 → (0 ≤ Z i ∧ Z i ≤ 128) ∧ (0 ≤ N i ∧ N i ≤ 128) ∧ 0 ≤ S i ∧ S i ≤ 128) (K : Q (some (vi (lf Z (xi Z N S) 1073741824 32))) (bh h E X D F P Z N S q ec pc) nx) :
    ∀ (m : Nat) (k : Int) (n : Int), (0 ≤ k) → (k ≤ 32) → (32 - k < m) → (n = lf Z (xi Z N S) 1073741824 k.toNat) → ma_J none mX7_leastChi (d + 1) 0 0 5 [some (vr 44), some (vi n), some (vi k)] [] (bh h E X D F P Z N S q ec pc) nx Q := by
  intro m
  induction m with
  | zero => intro k n k0 k1 k2 hn; omega
  | succ m ih =>
    intro k n k0 k1 k2 hn
    refine ma_iload_n dX7_leastChi_5 rfl ?_
    refine ma_bipush dX7_leastChi_6 ?_
    refine ma_rcmp_ge 36 dX7_leastChi_8 rfl (by constructor <;> omega) (by constructor <;> omega) (fun c8 => ?_) (fun c8 => ?_)
    · -- 36
      refine ma_iload_n dX7_leastChi_36 rfl ?_
      have e4 : k = 32 := by omega
      subst e4
      rw [hn]
      exact ma_iret dX7_leastChi_37 rfl K
    · -- 11
      refine ma_aload_n dX7_leastChi_11 rfl ?_
      refine ma_getf dX7_leastChi_12 fX7_28 (by first | exact bh_45 | exact bh_46 | exact bh_47 | exact bh_48 | exact bh_49 | exact bh_50 | exact bh_51 | exact bh_52 | exact bh_53 | exact bh_44 | exact (bh_n (by first | assumption | omega)).trans (by assumption)) (by rfl) ?_
      refine ma_iload_n dX7_leastChi_15 rfl ?_
      refine ma_iald dX7_leastChi_16 (by first | exact bh_45 | exact bh_46 | exact bh_47 | exact bh_48 | exact bh_49 | exact bh_50 | exact bh_51 | exact bh_52 | exact bh_53 | exact bh_44 | exact (bh_n (by first | assumption | omega)).trans (by assumption)) (by omega) (by omega) (by omega) ?_
      have hz := hZ k k0 (by omega)
      have hx : -1000000 ≤ xi Z N S k ∧ xi Z N S k ≤ 1000000 := by unfold xi; omega
      have hl : -1000000 ≤ n ∧ n ≤ 1073741824 := by rw [hn]; exact lf_b32 hZ k.toNat (by omega)
      refine ma_rif_le 30 dX7_leastChi_17 rfl (by constructor <;> omega) (fun c17 => ?_) (fun c17 => ?_)
      · -- 30
        refine ma_iincN dX7_leastChi_30 rfl (by decide) rfl ?_
        refine ma_goto 5 dX7_leastChi_33 rfl ?_
        exact ih (k + 1) _ (by omega) (by omega) (by omega) (by rw [lf_n k0 (by omega)]; exact hn)
      · -- 20
        refine ma_iload_n dX7_leastChi_20 rfl ?_
        refine ma_aload_n dX7_leastChi_21 rfl ?_
        refine ma_iload_n dX7_leastChi_22 rfl ?_
        refine ma_cV [_] dX7_leastChi_23 wX7_chi lX7_91 iX7_chi sX7_chi rfl (by first | exact bh_45 | exact bh_46 | exact bh_47 | exact bh_48 | exact bh_49 | exact bh_50 | exact bh_51 | exact bh_52 | exact bh_53 | exact bh_44 | exact (bh_n (by first | assumption | omega)).trans (by assumption)) (Nat.le_of_ble_eq_true rfl) ?_
        refine c_X7_chi ⟨k0, by omega⟩ hz.1 hz.2.2 ?_
        refine ma_cS [_, _] dX7_leastChi_26 wJ9_min_7cf53 lX7_85 tJ9_min_7cf53 (Nat.le_of_ble_eq_true rfl) ?_
        refine c_J9_min_7cf53 (by constructor <;> omega) (by constructor <;> omega) ?_
        refine ma_istore_nN dX7_leastChi_29 (by decide) rfl ?_
        refine ma_iincN dX7_leastChi_30 rfl (by decide) rfl ?_
        refine ma_goto 5 dX7_leastChi_33 rfl ?_
        exact ih (k + 1) _ (by omega) (by omega) (by omega) (by rw [lf_y k0 (by omega), ← hn])
theorem c_X7_leastChi {h : ma_H} {nx d : Nat} {E X D F P Z N S q : Int → Int} {ec pc : Int} {Q : Option ma_V → ma_H → Nat → Prop} (hZ : ∀ i, 0 ≤ i → i < 32 → (0 ≤ Z i ∧ Z i ≤ 128) ∧ (0 ≤ N i ∧ N i ≤ 128) ∧ 0 ≤ S i ∧ S i ≤ 128) (K : Q (some (vi (lf Z (xi Z N S) 1073741824 32))) (bh h E X D F P Z N S q ec pc) nx) : ma_Ct mX7_leastChi (d + 1) 0 0 [vr 44] (bh h E X D F P Z N S q ec pc) nx Q := by
  refine ma_Ct.of (by decide +kernel) (Nat.le_of_ble_eq_true rfl) ?_
  refine ma_ldc (n := 1073741824) dX7_leastChi_0 vX7_94 (by decide +kernel) ?_
  refine ma_istore_nN dX7_leastChi_2 (by decide) rfl ?_
  refine ma_iconst dX7_leastChi_3 ?_
  refine ma_istore_nN dX7_leastChi_4 (by decide) rfl ?_
  exact l_X7_leastChi hZ K 33 0 1073741824 (by omega) (by omega) (by omega) rfl
