def li (k : Int) : Int := if k < 32 then k else if k < 160 then 32 + 6 * ((k - 32) / 16) + (if (k - 32) / 4 % 4 = 0 then (k - 32) % 4 - 1 else if (k - 32) / 4 % 4 = 1 then (k - 32) % 4 + 1 else 5) else k - 80
theorem li_n : ∀ k : Nat, k < 200 → ((k : Int) < 32 ∨ 160 ≤ (k : Int) ∨ ((k : Int) - 32) / 4 % 4 < ((k : Int) - 32) % 4) → 0 ≤ li k ∧ li k < 120 ∧ lpk (li k) = k := by decide +kernel
theorem li_ok {k : Int} (k0 : 0 ≤ k) (k1 : k < 200) (h : k < 32 ∨ 160 ≤ k ∨ (k - 32) / 4 % 4 < (k - 32) % 4) : 0 ≤ li k ∧ li k < 120 ∧ lpk (li k) = k := pm_nat (P := fun k => (k < 32 ∨ 160 ≤ k ∨ (k - 32) / 4 % 4 < (k - 32) % 4) → 0 ≤ li k ∧ li k < 120 ∧ lpk (li k) = k) (n := 200) li_n k0 k1 h
theorem lpk_s : ∀ i : Nat, i < 119 → lpk i < lpk ((i : Int) + 1) := by decide +kernel
theorem lpk_m {i : Int} (i0 : 0 ≤ i) : ∀ n : Nat, i + n < 119 → lpk i < lpk (i + n + 1)
  | 0, h => by
    have := pm_nat (P := fun i => lpk i < lpk (i + 1)) (n := 119) lpk_s i0 (by omega)
    rw [show i + ((0 : Nat) : Int) + 1 = i + 1 by omega]
    exact this
  | n + 1, h => by
    have a := lpk_m i0 n (by omega)
    have b := pm_nat (P := fun i => lpk i < lpk (i + 1)) (n := 119) lpk_s (x := i + n + 1) (by omega) (by omega)
    rw [show i + ((n + 1 : Nat) : Int) + 1 = i + n + 1 + 1 by omega]
    exact Int.lt_trans a b
theorem lpk_lt {i j : Int} (i0 : 0 ≤ i) (ij : i < j) (j1 : j < 120) : lpk i < lpk j := by
  have := lpk_m i0 (j - i - 1).toNat (by omega)
  rw [show i + ((j - i - 1).toNat : Int) + 1 = j by omega] at this
  exact this
theorem lso_k : ∀ i : Nat, i < 120 → (lso i = 0 ∧ lpk i < 32) ∨ (lso i = 1 ∧ 32 ≤ lpk i ∧ lpk i < 160 ∧ (lpk i - 32) / 16 = lfi i ∧ (lpk i - 32) / 4 % 4 < (lpk i - 32) % 4) ∨ (lso i = 2 ∧ 160 ≤ lpk i ∧ lpk i < 168) ∨ (lso i = 3 ∧ 168 ≤ lpk i ∧ (lpk i - 168) / 4 = lfi i) := by decide +kernel
theorem lf_k : ∀ i : Nat, i < 120 → (lso i = 0 → lpk i / 4 = lfi i) ∧ (lso i = 2 → lpk i - 160 = lfi i) := by decide +kernel
theorem lso_c {i : Int} (i0 : 0 ≤ i) (i1 : i < 120) : (lso i = 0 ∧ lpk i < 32) ∨ (lso i = 1 ∧ 32 ≤ lpk i ∧ lpk i < 160 ∧ (lpk i - 32) / 16 = lfi i ∧ (lpk i - 32) / 4 % 4 < (lpk i - 32) % 4) ∨ (lso i = 2 ∧ 160 ≤ lpk i ∧ lpk i < 168) ∨ (lso i = 3 ∧ 168 ≤ lpk i ∧ (lpk i - 168) / 4 = lfi i) := pm_nat (P := fun i => (lso i = 0 ∧ lpk i < 32) ∨ (lso i = 1 ∧ 32 ≤ lpk i ∧ lpk i < 160 ∧ (lpk i - 32) / 16 = lfi i ∧ (lpk i - 32) / 4 % 4 < (lpk i - 32) % 4) ∨ (lso i = 2 ∧ 160 ≤ lpk i ∧ lpk i < 168) ∨ (lso i = 3 ∧ 168 ≤ lpk i ∧ (lpk i - 168) / 4 = lfi i)) (n := 120) lso_k i0 i1
theorem lf_c {i : Int} (i0 : 0 ≤ i) (i1 : i < 120) : (lso i = 0 → lpk i / 4 = lfi i) ∧ (lso i = 2 → lpk i - 160 = lfi i) := pm_nat (P := fun i => (lso i = 0 → lpk i / 4 = lfi i) ∧ (lso i = 2 → lpk i - 160 = lfi i)) (n := 120) lf_k i0 i1
/-- which tet a place is of -/
theorem rf_t {t : Int} {G E P : Int → Int} {k : Int} (h : RF t G E P k = 0) : (k < 32 → k / 4 < t) ∧ (32 ≤ k → k < 160 → (k - 32) / 16 < t ∧ (k - 32) / 4 % 4 < (k - 32) % 4) ∧ (160 ≤ k → k < 168 → k - 160 < t) ∧ (168 ≤ k → (k - 168) / 4 < t) := by
  unfold RF R2 R1 at h
  refine ⟨fun a => ?_, fun a b => ?_, fun a b => ?_, fun a => ?_⟩
  · rw [if_pos a] at h
    split at h
    · omega
    · omega
  · rw [if_neg (by omega), if_pos b] at h
    split at h
    · omega
    · rename_i z; exact Classical.not_not.mp z
  · rw [if_neg (by omega), if_neg (by omega), if_pos b] at h
    split at h
    · omega
    · omega
  · rw [if_neg (by omega), if_neg (by omega), if_neg (by omega)] at h
    split at h
    · omega
    · rename_i z; exact Classical.not_not.mp z
theorem ok_rf {t i : Int} {G E P : Int → Int} (hG : VG t G) (hB : BP t G E P) (i0 : 0 ≤ i) (i1 : i < 120) : (lfi i < t ∧ RFE t G (lso i) (plc t (lso i) (lfi i) (lse i) (lth i))) ↔ RF t G E P (lpk i) = 0 := by
  have lb := l_in i0 i1
  have pk := lpk_in i0 i1
  constructor
  · rintro ⟨a, b⟩
    have ep : (plc t (lso i) (lfi i) (lse i) (lth i)) = lpk i := by rw [l_plc i0 i1, if_pos a]
    have rb := RF_in (t := t) (G := G) (E := E) (P := P) (k := lpk i)
    rcases Int.lt_or_eq_of_le rb.2 with z | z
    · exact absurd b (rfe_un (E := E) (P := P) hG lb.1 (by omega) (fun _ => hB) (by rw [ep]; exact z))
    · exact z
  · intro h
    have q := rf_t h
    have c := lso_c i0 i1
    have e := lf_c i0 i1
    have a : lfi i < t := by
      rcases c with c | c | c | c
      · have := q.1 c.2; have := e.1 c.1; omega
      · have := (q.2.1 c.2.1 c.2.2.1).1; omega
      · have := q.2.2.1 c.2.1 c.2.2; have := e.2 c.1; omega
      · have := q.2.2.2 c.2.1; omega
    refine ⟨a, E, P, fun _ => hB, ?_⟩
    rw [l_plc i0 i1, if_pos a]
    exact h
theorem lso_eq {k : Int} (k0 : 0 ≤ k) (k1 : k < 200) (h : k < 32 ∨ 160 ≤ k ∨ (k - 32) / 4 % 4 < (k - 32) % 4) : (32 ≤ k → k < 160 → lso (li k) = 1) ∧ (168 ≤ k → lso (li k) = 3) := by
  have a := li_ok k0 k1 h
  have c := lso_c a.1 a.2.1
  rw [a.2.2] at c
  omega
/-- none -/
theorem fn_no {t : Int} {G E P : Int → Int} (hG : VG t G) (hB : BP t G E P) (h : FN t G E P) : ∀ i, 0 ≤ i → i < 120 → (lso i = 3 ∨ lso i = 1) → ¬ (lfi i < t ∧ RFE t G (lso i) (plc t (lso i) (lfi i) (lse i) (lth i))) := by
  intro i i0 i1 hs z
  have r := (ok_rf hG hB i0 i1).mp z
  have c := lso_c i0 i1
  have pk := lpk_in i0 i1
  rcases c with c | c | c | c
  · omega
  · exact h.2 _ c.2.1 c.2.2.1 r
  · omega
  · exact h.1 _ c.2.1 (by omega) r
theorem fs_3 {t k : Int} {G E P : Int → Int} (hG : VG t G) (hB : BP t G E P) (h : FS t G E P k) (k3 : 168 ≤ k) : (∀ i, FM t G 3 i → lpk i = k) ∧ ∃ i, 0 ≤ i ∧ i < 120 ∧ lso i = 3 ∧ (lfi i < t ∧ RFE t G (lso i) (plc t (lso i) (lfi i) (lse i) (lth i))) := by
  have fk := fs_k h
  have ll := li_ok fk.1.1 fk.1.2 (by omega)
  have le := (lso_eq fk.1.1 fk.1.2 (by omega)).2 k3
  have okk : (lfi (li k) < t ∧ RFE t G (lso (li k)) (plc t (lso (li k)) (lfi (li k)) (lse (li k)) (lth (li k)))) := (ok_rf hG hB ll.1 ll.2.1).mpr (by rw [ll.2.2]; exact h.1)
  have hm : ∀ j, 168 ≤ j → j < k → RF t G E P j ≠ 0 := by
    rcases h.2 with a | a
    · exact a.2.2
    · omega
  refine ⟨fun i f => ?_, li k, ll.1, ll.2.1, le, okk⟩
  have r := (ok_rf hG hB f.1.1 f.1.2).mp f.2.2.1
  have c := lso_c f.1.1 f.1.2
  rcases Int.lt_trichotomy (lpk i) k with z | z | z
  · exact absurd r (hm _ (by have := f.2.1; omega) z)
  · exact z
  · have lt : li k < i := by
      rcases Int.lt_or_le (li k) i with y | y
      · exact y
      · exfalso
        rcases Int.lt_or_eq_of_le y with w | w
        · have := lpk_lt f.1.1 w ll.2.1
          omega
        · rw [← w] at ll; omega
    exact absurd okk (f.2.2.2 (li k) ll.1 lt le)
theorem fs_1 {t k : Int} {G E P : Int → Int} (hG : VG t G) (hB : BP t G E P) (h : FS t G E P k) (k3 : k < 168) : (∀ i, 0 ≤ i → i < 120 → lso i = 3 → ¬ (lfi i < t ∧ RFE t G (lso i) (plc t (lso i) (lfi i) (lse i) (lth i)))) ∧ (∀ i, FM t G 1 i → lpk i = k) ∧ ∃ i, 0 ≤ i ∧ i < 120 ∧ lso i = 1 ∧ (lfi i < t ∧ RFE t G (lso i) (plc t (lso i) (lfi i) (lse i) (lth i))) := by
  have fk := fs_k h
  have q := rf_t h.1
  have hm : 32 ≤ k ∧ k < 160 ∧ (∀ j, 168 ≤ j → j < 200 → RF t G E P j ≠ 0) ∧ ∀ j, 32 ≤ j → j < k → RF t G E P j ≠ 0 := by
    rcases h.2 with a | a
    · omega
    · exact a
  have up := (q.2.1 hm.1 hm.2.1).2
  have ll := li_ok fk.1.1 fk.1.2 (Or.inr (Or.inr up))
  have le := (lso_eq fk.1.1 fk.1.2 (Or.inr (Or.inr up))).1 hm.1 hm.2.1
  have okk : (lfi (li k) < t ∧ RFE t G (lso (li k)) (plc t (lso (li k)) (lfi (li k)) (lse (li k)) (lth (li k)))) := (ok_rf hG hB ll.1 ll.2.1).mpr (by rw [ll.2.2]; exact h.1)
  refine ⟨fun i i0 i1 e z => ?_, fun i f => ?_, li k, ll.1, ll.2.1, le, okk⟩
  · have r := (ok_rf hG hB i0 i1).mp z
    have c := lso_c i0 i1
    have pk := lpk_in i0 i1
    exact hm.2.2.1 (lpk i) (by omega) pk.2 r
  · have r := (ok_rf hG hB f.1.1 f.1.2).mp f.2.2.1
    have c := lso_c f.1.1 f.1.2
    rcases Int.lt_trichotomy (lpk i) k with z | z | z
    · exact absurd r (hm.2.2.2 _ (by have := f.2.1; omega) z)
    · exact z
    · have lt : li k < i := by
        rcases Int.lt_or_le (li k) i with y | y
        · exact y
        · exfalso
          rcases Int.lt_or_eq_of_le y with w | w
          · have := lpk_lt f.1.1 w ll.2.1
            omega
          · rw [← w] at ll; omega
      exact absurd okk (f.2.2.2 (li k) ll.1 lt le)
theorem fm_p {t i k : Int} {G : Int → Int} {w : Int} (f : FM t G w i) (e : lpk i = k) : (plc t (lso i) (lfi i) (lse i) (lth i)) = k := by
  rw [l_plc f.1.1 f.1.2, if_pos f.2.2.1.1]
  exact e
set_option maxHeartbeats 4000000 in
theorem l_ms18 {nx d : Nat} {e' t' : Int} {G' : Int → Int} {Q : Option ma_V → ma_H → Nat → Prop} :
    ∀ (r : Nat) (n : Int) (h : ma_H) (I : Nat → Int) (t : Int) (G : Int → Int), 0 ≤ n → h 73 = co 12 (mo I) → SMO h → (∃ W, h 100 = ci 33 W) → (∃ A, h 107 = ci 33 A ∧ AG t G A) → VG t G → CN t G → SIM r t G n t' G' e' → (∀ h' I', GS h h' I I' t' G' → ma_J none mX12_simpler (d + 9) 0 0 40 [some (vr 73), some (vi e')] [] h' nx Q) → ma_J none mX12_simpler (d + 9) 0 0 18 [some (vr 73), some (vi n)] [] h nx Q := by
  intro r
  induction r with
  | zero =>
    intro n h I t G n0 hM hS hW hAA hG hC hsim K
    obtain ⟨W, h100⟩ := hW
    obtain ⟨A, h107, hA⟩ := hAA
    obtain ⟨E, P, hB, hF, z1, z2, z3⟩ := hsim
    refine ma_aload_n dX12_simpler_18 rfl ?_
    refine ma_iconst dX12_simpler_19 ?_
    refine ma_cV [_] dX12_simpler_20 wX12_goFirst lX12_488 iX12_goFirst sX12_goFirst rfl (by first | exact hM | exact gs.2.1 | exact gs2.2.1) (Nat.le_of_ble_eq_true rfl) ?_
    refine c_X12_goFirst (t1 := t) (G1 := G) hM hS h100 h107 hA hG hC (by decide) (fun k f => absurd f.2.2.1 (fn_no hG hB hF k f.1.1 f.1.2 (Or.inl f.2.1))) (fun k h' I' f gs => absurd f.2.2.1 (fn_no hG hB hF k f.1.1 f.1.2 (Or.inl f.2.1))) (fun h' I' f gs => ?_)
    obtain ⟨gWf, gW⟩ := gs.2.2.2.2.1
    obtain ⟨gAf, gA, gAG⟩ := gs.2.2.2.2.2
    · -- k0
      refine ma_rif_ne 34 dX12_simpler_23 rfl (by decide) (fun c23 => absurd c23 (by decide)) (fun c23 => ?_)
      refine ma_aload_n dX12_simpler_26 rfl ?_
      refine ma_iconst dX12_simpler_27 ?_
      refine ma_cV [_] dX12_simpler_28 wX12_goFirst lX12_488 iX12_goFirst sX12_goFirst rfl (by first | exact hM | exact gs.2.1 | exact gs2.2.1) (Nat.le_of_ble_eq_true rfl) ?_
      refine c_X12_goFirst (t1 := t) (G1 := G) gs.2.1 gs.2.2.2.1 gW gA gAG hG hC (by decide) (fun k f => absurd f.2.2.1 (fn_no hG hB hF k f.1.1 f.1.2 (Or.inr f.2.1))) (fun k h' I' f gs => absurd f.2.2.1 (fn_no hG hB hF k f.1.1 f.1.2 (Or.inr f.2.1))) (fun h2 I2 f2 gs2 => ?_)
      · -- k0
        refine ma_rif_eq 40 dX12_simpler_31 rfl (by decide) (fun c31 => ?_) (fun c31 => absurd c31 (by decide))
        subst z1 z2 z3
        exact K h2 I2 (gs_tr gs gs2)
  | succ r ih =>
    intro n h I t G n0 hM hS hW hAA hG hC hsim K
    obtain ⟨W, h100⟩ := hW
    obtain ⟨A, h107, hA⟩ := hAA
    rcases hsim with ⟨E, P, hB, hF, z1, z2, z3⟩ | ⟨E, P, kk, t1, G1, hB, hF, st, hsim⟩
    · -- none
      refine ma_aload_n dX12_simpler_18 rfl ?_
      refine ma_iconst dX12_simpler_19 ?_
      refine ma_cV [_] dX12_simpler_20 wX12_goFirst lX12_488 iX12_goFirst sX12_goFirst rfl (by first | exact hM | exact gs.2.1 | exact gs2.2.1) (Nat.le_of_ble_eq_true rfl) ?_
      refine c_X12_goFirst (t1 := t) (G1 := G) hM hS h100 h107 hA hG hC (by decide) (fun k f => absurd f.2.2.1 (fn_no hG hB hF k f.1.1 f.1.2 (Or.inl f.2.1))) (fun k h' I' f gs => absurd f.2.2.1 (fn_no hG hB hF k f.1.1 f.1.2 (Or.inl f.2.1))) (fun h' I' f gs => ?_)
      obtain ⟨gWf, gW⟩ := gs.2.2.2.2.1
      obtain ⟨gAf, gA, gAG⟩ := gs.2.2.2.2.2
      · -- k0
        refine ma_rif_ne 34 dX12_simpler_23 rfl (by decide) (fun c23 => absurd c23 (by decide)) (fun c23 => ?_)
        refine ma_aload_n dX12_simpler_26 rfl ?_
        refine ma_iconst dX12_simpler_27 ?_
        refine ma_cV [_] dX12_simpler_28 wX12_goFirst lX12_488 iX12_goFirst sX12_goFirst rfl (by first | exact hM | exact gs.2.1 | exact gs2.2.1) (Nat.le_of_ble_eq_true rfl) ?_
        refine c_X12_goFirst (t1 := t) (G1 := G) gs.2.1 gs.2.2.2.1 gW gA gAG hG hC (by decide) (fun k f => absurd f.2.2.1 (fn_no hG hB hF k f.1.1 f.1.2 (Or.inr f.2.1))) (fun k h' I' f gs => absurd f.2.2.1 (fn_no hG hB hF k f.1.1 f.1.2 (Or.inr f.2.1))) (fun h2 I2 f2 gs2 => ?_)
        · -- k0
          refine ma_rif_eq 40 dX12_simpler_31 rfl (by decide) (fun c31 => ?_) (fun c31 => absurd c31 (by decide))
          subst z1 z2 z3
          exact K h2 I2 (gs_tr gs gs2)
    · have vv := stp_ok hG hC st
      by_cases k3 : 168 ≤ kk
      · have h3 := fs_3 hG hB hF k3
        obtain ⟨xx, x0, x1, xs, okx⟩ := h3.2
        refine ma_aload_n dX12_simpler_18 rfl ?_
        refine ma_iconst dX12_simpler_19 ?_
        refine ma_cV [_] dX12_simpler_20 wX12_goFirst lX12_488 iX12_goFirst sX12_goFirst rfl (by first | exact hM | exact gs.2.1 | exact gs2.2.1) (Nat.le_of_ble_eq_true rfl) ?_
        refine c_X12_goFirst (t1 := t1) (G1 := G1) hM hS h100 h107 hA hG hC (by decide) (fun k f => by rw [fm_p f (h3.1 k f)]; exact st) (fun k h' I' f gs => ?_) (fun h' I' f gs => absurd okx (f xx x0 x1 xs))
        · -- k1
          refine ma_rif_ne 34 dX12_simpler_23 rfl (by decide) (fun c23 => ?_) (fun c23 => absurd c23 (by decide))
          refine ma_iincN dX12_simpler_34 rfl (by decide) rfl ?_
          refine ma_goto 18 dX12_simpler_37 rfl ?_
          obtain ⟨gWf, gW⟩ := gs.2.2.2.2.1
          obtain ⟨gAf, gA, gAG⟩ := gs.2.2.2.2.2
          exact ih (n + 1) h' I' t1 G1 (by omega) gs.2.1 gs.2.2.2.1 ⟨_, gW⟩ ⟨_, gA, gAG⟩ vv.1 vv.2 hsim (fun h3 I3 g3 => K h3 I3 (gs_tr gs g3))
      · have h1 := fs_1 hG hB hF (by omega)
        obtain ⟨xx, x0, x1, xs, okx⟩ := h1.2.2
        refine ma_aload_n dX12_simpler_18 rfl ?_
        refine ma_iconst dX12_simpler_19 ?_
        refine ma_cV [_] dX12_simpler_20 wX12_goFirst lX12_488 iX12_goFirst sX12_goFirst rfl (by first | exact hM | exact gs.2.1 | exact gs2.2.1) (Nat.le_of_ble_eq_true rfl) ?_
        refine c_X12_goFirst (t1 := t) (G1 := G) hM hS h100 h107 hA hG hC (by decide) (fun k f => absurd f.2.2.1 (h1.1 k f.1.1 f.1.2 f.2.1)) (fun k h' I' f gs => absurd f.2.2.1 (h1.1 k f.1.1 f.1.2 f.2.1)) (fun h' I' f gs => ?_)
        obtain ⟨gWf, gW⟩ := gs.2.2.2.2.1
        obtain ⟨gAf, gA, gAG⟩ := gs.2.2.2.2.2
        · -- k0
          refine ma_rif_ne 34 dX12_simpler_23 rfl (by decide) (fun c23 => absurd c23 (by decide)) (fun c23 => ?_)
          refine ma_aload_n dX12_simpler_26 rfl ?_
          refine ma_iconst dX12_simpler_27 ?_
          refine ma_cV [_] dX12_simpler_28 wX12_goFirst lX12_488 iX12_goFirst sX12_goFirst rfl (by first | exact hM | exact gs.2.1 | exact gs2.2.1) (Nat.le_of_ble_eq_true rfl) ?_
          refine c_X12_goFirst (t1 := t1) (G1 := G1) gs.2.1 gs.2.2.2.1 gW gA gAG hG hC (by decide) (fun k f => by rw [fm_p f (h1.2.1 k f)]; exact st) (fun k h2 I2 f2 gs2 => ?_) (fun h2 I2 f gs2 => absurd okx (f xx x0 x1 xs))
          · -- k0
            refine ma_rif_eq 40 dX12_simpler_31 rfl (by decide) (fun c31 => absurd c31 (by decide)) (fun c31 => ?_)
            refine ma_iincN dX12_simpler_34 rfl (by decide) rfl ?_
            refine ma_goto 18 dX12_simpler_37 rfl ?_
            obtain ⟨gWf2, gW2⟩ := gs2.2.2.2.2.1
            obtain ⟨gAf2, gA2, gAG2⟩ := gs2.2.2.2.2.2
            exact ih (n + 1) h2 I2 t1 G1 (by omega) gs2.2.1 gs2.2.2.2.1 ⟨_, gW2⟩ ⟨_, gA2, gAG2⟩ vv.1 vv.2 hsim (fun h3 I3 g3 => K h3 I3 (gs_tr (gs_tr gs gs2) g3))
