theorem nc_ct (G : Int → Int) : ∀ n : Nat, nc G n = ct (fun j => G j < 0) n
  | 0 => rfl
  | n + 1 => by
    have s := ct_sn (P := fun j => G j < 0) n
    unfold nc
    by_cases z : G n < 0
    · rw [if_pos z, s.1 z, nc_ct G n]
    · rw [if_neg z, s.2 z, nc_ct G n, Int.add_zero]
theorem ct_pos {P : Int → Prop} {n : Nat} : (0 < ct P n ↔ ∃ x : Int, 0 ≤ x ∧ x < (n : Int) ∧ P x) := by
  obtain ⟨l, ln, ll, lm⟩ := ct_get (P := P) n
  rw [← ll]
  constructor
  · intro z
    cases l with
    | nil => exact absurd z (by decide)
    | cons a b => exact ⟨a, (lm a).mp (List.mem_cons_self ..)⟩
  · rintro ⟨x, hx⟩
    have := (lm x).mpr hx
    cases l with
    | nil => cases this
    | cons a b => simp
theorem dA_pos {t : Int} {G E P : Int → Int} (hG : VG t G) (hB : BP t G E P) {i : Int} (i0 : 0 ≤ i) (i1 : i < 128) : (0 < dA E (16 * t) i ↔ i < 16 * t ∧ cP E i) := by
  have ht := hG.1
  unfold dA
  rw [ct_pos]
  constructor
  · rintro ⟨x, x0, x1, x2, x3⟩
    have hx : oE t x := ⟨x0, by omega, by omega⟩
    obtain ⟨a, b, c⟩ := eg_cP hB hG hx
    rw [x3] at a b
    exact ⟨b.2.1, a⟩
  · rintro ⟨h1, h2⟩
    exact ⟨i, i0, by omega, h2.1, h2.2⟩
theorem zA_pos {t : Int} {G E P : Int → Int} (hG : VG t G) (hB : BP t G E P) {i : Int} (i0 : 0 ≤ i) : (0 < zA P (4 * t) i ↔ i < 4 * t ∧ P i = i) := by
  have ht := hG.1
  unfold zA
  rw [ct_pos]
  constructor
  · rintro ⟨x, x0, x1, x2⟩
    have hx : oC t x := ⟨x0, by omega⟩
    have a := hB.2.2.1.1 x hx
    have b := a.2.2 P hB.2.2.1.2
    have x2' : P x = i := x2
    rw [x2'] at a b
    exact ⟨by omega, b⟩
  · rintro ⟨h1, h2⟩
    exact ⟨i, i0, by omega, h2⟩
theorem rv_eq {t : Int} {G E P : Int → Int} (hG : VG t G) (hB : BP t G E P) (A : Int → Prop) : ct (fun i => 0 < dA E (16 * t) i ∧ A i) 128 = ct (fun x => cP E x ∧ A x) (16 * t).toNat := by
  have ht := hG.1
  have e1 : ct (fun i => 0 < dA E (16 * t) i ∧ A i) 128 = ct (fun i => i < 16 * t ∧ cP E i ∧ A i) 128 := ct_c _ (fun q q0 q1 => by
    have q1' : q < 128 := q1
    rw [dA_pos hG hB q0 q1', and_assoc])
  rw [e1]
  have e2 := ct_sk2 (P := fun i => i < 16 * t ∧ cP E i ∧ A i) (a := 16 * t) (b := 128) (by omega) (by omega) (fun q q0 q1 z => by have := z.1; omega)
  rw [show (128 : Int).toNat = 128 from rfl] at e2
  rw [e2]
  exact ct_c _ (fun q q0 q1 => ⟨fun z => z.2, fun z => ⟨by omega, z⟩⟩)
theorem rn_eq {t : Int} {G E P : Int → Int} (hG : VG t G) (hB : BP t G E P) (A : Int → Prop) : ct (fun i => 0 < zA P (4 * t) i ∧ A i) 32 = ct (fun c => P c = c ∧ A c) (4 * t).toNat := by
  have ht := hG.1
  have e1 : ct (fun i => 0 < zA P (4 * t) i ∧ A i) 32 = ct (fun i => i < 4 * t ∧ P i = i ∧ A i) 32 := ct_c _ (fun q q0 q1 => by
    rw [zA_pos hG hB q0, and_assoc])
  rw [e1]
  have e2 := ct_sk2 (P := fun i => i < 4 * t ∧ P i = i ∧ A i) (a := 4 * t) (b := 32) (by omega) (by omega) (fun q q0 q1 z => by have := z.1; omega)
  rw [show (32 : Int).toNat = 32 from rfl] at e2
  rw [e2]
  exact ct_c _ (fun q q0 q1 => ⟨fun z => z.2, fun z => ⟨by omega, z⟩⟩)
theorem br_b {t : Int} {E P G : Int → Int} (ht : 1 ≤ t ∧ t ≤ 8) : (∀ i, 0 ≤ i → i < 128 → 0 ≤ dA E (16 * t) i ∧ dA E (16 * t) i ≤ 1000000) ∧ ∀ i, 0 ≤ i → i < 32 → (0 ≤ zA P (4 * t) i ∧ zA P (4 * t) i ≤ 128) ∧ (0 ≤ nA P E (16 * t) i ∧ nA P E (16 * t) i ≤ 128) ∧ 0 ≤ sA P G (16 * t) i ∧ sA P G (16 * t) i ≤ 128 := by
  refine ⟨fun i _ _ => ?_, fun i _ _ => ?_⟩
  · have := ct_in (dP E i) (16 * t).toNat
    unfold dA
    omega
  · have h1 := ct_in (zP P i) (4 * t).toNat
    have h2 := ct_in (nP P E i) (16 * t).toNat
    have h3 := ct_in (sP P G i) (16 * t).toNat
    unfold zA nA sA
    omega
set_option maxHeartbeats 2000000 in
theorem c_X11_isManifold {h : ma_H} {b g nx d : Nat} {t s : Int} {G E P q : Int → Int} {Q : Option ma_V → ma_H → Nat → Prop} (hx : h 0 = co 11 (xo s)) (hb : h b = co 8 [vi t, vr g]) (hg : h g = ci 32 G) (nb : b < 44 ∨ 53 < b) (ng : g < 44 ∨ 53 < g) (hG : VG t G) (hB : BP t G E P) (K1 : MF t G E P → Q (some (vi 1)) (br h t G E P q) nx) (K0 : ¬ MF t G E P → Q (some (vi 0)) (br h t G E P q) nx) : ma_Ct mX11_isManifold (d + 3) 0 0 [vr 0, vr b] (br h t G E P q) nx Q := by
  have ht := hG.1
  have bb := br_b (E := E) (P := P) (G := G) ht
  have b1 := ct_in (fun j => G j < 0) (4 * t).toNat
  have b2 := ct_in (fun x => cP E x ∧ E x = E (tr x)) (16 * t).toNat
  have b3 := ct_in (fun c => P c = c ∧ sA P G (16 * t) c = 0 ∧ xi (zA P (4 * t)) (nA P E (16 * t)) (sA P G (16 * t)) c = 2) (4 * t).toNat
  have b4 := ct_in (qP P) (4 * t).toNat
  have e3 : ct (fun c => P c = c ∧ sA P G (16 * t) c = 0 ∧ xi (zA P (4 * t)) (nA P E (16 * t)) (sA P G (16 * t)) c = 2) (4 * t).toNat = ct (fun c => P c = c ∧ RD t G E P c) (4 * t).toNat := rfl
  refine ma_Ct.of (by decide +kernel) (Nat.le_of_ble_eq_true rfl) ?_
  refine ma_aload_n dX11_isManifold_0 rfl ?_
  refine ma_cV [] dX11_isManifold_1 wX8_freeFaces lX11_162 iX8_freeFaces sX8_freeFaces rfl (by first | exact bh_45 | exact bh_46 | exact bh_47 | exact bh_48 | exact bh_49 | exact bh_50 | exact bh_51 | exact bh_52 | exact bh_53 | exact bh_44 | exact (bh_n (by first | assumption | omega)).trans (by assumption)) (Nat.le_of_ble_eq_true rfl) ?_
  refine c_X8_freeFaces ((bh_n (by first | assumption | omega)).trans hb) ((bh_n (by first | assumption | omega)).trans hg) (by omega) (fun j j0 j1 => by have := vg_in hG j0 j1; unfold rg; omega) ?_
  rw [nc_ct]
  refine ma_rif_ne 38 dX11_isManifold_4 rfl (by constructor <;> omega) (fun c4 => ?_) (fun c4 => ?_)
  · -- 38
    refine ma_iconst dX11_isManifold_38 ?_
    first | exact ma_zret dX11_isManifold_39 rfl (Or.inr rfl) (K1 ⟨by omega, by omega, e3.symm.trans (by omega)⟩) | exact ma_zret dX11_isManifold_39 rfl (Or.inl rfl) (K0 (fun z => by have z1 := z.1; have z2 := z.2.1; have z3 := e3.trans z.2.2; omega))
  · -- 7
    refine ma_aload_n dX11_isManifold_7 rfl ?_
    refine ma_getf dX11_isManifold_8 fX11_68 (by first | exact bh_45 | exact bh_46 | exact bh_47 | exact bh_48 | exact bh_49 | exact bh_50 | exact bh_51 | exact bh_52 | exact bh_53 | exact bh_44 | exact (bh_n (by first | assumption | omega)).trans (by assumption)) (by rfl) ?_
    refine ma_cV [] dX11_isManifold_11 wX7_reversedEdges lX11_212 iX7_reversedEdges sX7_reversedEdges rfl (by first | exact bh_45 | exact bh_46 | exact bh_47 | exact bh_48 | exact bh_49 | exact bh_50 | exact bh_51 | exact bh_52 | exact bh_53 | exact bh_44 | exact (bh_n (by first | assumption | omega)).trans (by assumption)) (Nat.le_of_ble_eq_true rfl) ?_
    refine c_X7_reversedEdges bb.1 (bp_E hB) ?_
    rw [rv_eq hG hB (fun i => E i = E (tr i))]
    refine ma_rif_ne 38 dX11_isManifold_14 rfl (by constructor <;> omega) (fun c14 => ?_) (fun c14 => ?_)
    · -- 38
      refine ma_iconst dX11_isManifold_38 ?_
      first | exact ma_zret dX11_isManifold_39 rfl (Or.inr rfl) (K1 ⟨by omega, by omega, e3.symm.trans (by omega)⟩) | exact ma_zret dX11_isManifold_39 rfl (Or.inl rfl) (K0 (fun z => by have z1 := z.1; have z2 := z.2.1; have z3 := e3.trans z.2.2; omega))
    · -- 17
      refine ma_aload_n dX11_isManifold_17 rfl ?_
      refine ma_getf dX11_isManifold_18 fX11_68 (by first | exact bh_45 | exact bh_46 | exact bh_47 | exact bh_48 | exact bh_49 | exact bh_50 | exact bh_51 | exact bh_52 | exact bh_53 | exact bh_44 | exact (bh_n (by first | assumption | omega)).trans (by assumption)) (by rfl) ?_
      refine ma_cV [] dX11_isManifold_21 wX7_roundPoints lX11_218 iX7_roundPoints sX7_roundPoints rfl (by first | exact bh_45 | exact bh_46 | exact bh_47 | exact bh_48 | exact bh_49 | exact bh_50 | exact bh_51 | exact bh_52 | exact bh_53 | exact bh_44 | exact (bh_n (by first | assumption | omega)).trans (by assumption)) (Nat.le_of_ble_eq_true rfl) ?_
      refine c_X7_roundPoints bb.2 ?_
      rw [rn_eq hG hB (fun i => sA P G (16 * t) i = 0 ∧ xi (zA P (4 * t)) (nA P E (16 * t)) (sA P G (16 * t)) i = 2)]
      refine ma_aload_n dX11_isManifold_24 rfl ?_
      refine ma_getf dX11_isManifold_25 fX11_68 (by first | exact bh_45 | exact bh_46 | exact bh_47 | exact bh_48 | exact bh_49 | exact bh_50 | exact bh_51 | exact bh_52 | exact bh_53 | exact bh_44 | exact (bh_n (by first | assumption | omega)).trans (by assumption)) (by rfl) ?_
      refine ma_getf dX11_isManifold_28 fX11_224 (by first | exact bh_45 | exact bh_46 | exact bh_47 | exact bh_48 | exact bh_49 | exact bh_50 | exact bh_51 | exact bh_52 | exact bh_53 | exact bh_44 | exact (bh_n (by first | assumption | omega)).trans (by assumption)) (by rfl) ?_
      refine ma_rcmp_ne 38 dX11_isManifold_31 rfl (by constructor <;> omega) (by constructor <;> omega) (fun c31 => ?_) (fun c31 => ?_)
      · -- 38
        refine ma_iconst dX11_isManifold_38 ?_
        first | exact ma_zret dX11_isManifold_39 rfl (Or.inr rfl) (K1 ⟨by omega, by omega, e3.symm.trans (by omega)⟩) | exact ma_zret dX11_isManifold_39 rfl (Or.inl rfl) (K0 (fun z => by have z1 := z.1; have z2 := z.2.1; have z3 := e3.trans z.2.2; omega))
      · -- 34
        refine ma_iconst dX11_isManifold_34 ?_
        refine ma_goto 39 dX11_isManifold_35 rfl ?_
        first | exact ma_zret dX11_isManifold_39 rfl (Or.inr rfl) (K1 ⟨by omega, by omega, e3.symm.trans (by omega)⟩) | exact ma_zret dX11_isManifold_39 rfl (Or.inl rfl) (K0 (fun z => by have z1 := z.1; have z2 := z.2.1; have z3 := e3.trans z.2.2; omega))
set_option maxHeartbeats 2000000 in
theorem l_dn34 {d : Nat} {seed n : Int} {Q : Option ma_V → ma_H → Nat → Prop} (hn : 1 ≤ n ∧ n ≤ 12) : ∀ (r : Nat) (i e : Int) (h : ma_H) (s t : Int) (G : Int → Int), 0 ≤ i → i + r = n → h 0 = co 11 (xo s) → SC h → h 5 = co 8 [vi t, vr 6] → h 6 = ci 32 G → VG t G → CN t G → (∀ h' t' G' e' s', DRW r s t G e t' G' e' → kp h h' (0 :: 5 :: 6 :: scl) → SC h' → h' 0 = co 11 (xo s') → h' 5 = co 8 [vi t', vr 6] → h' 6 = ci 32 G' → ma_J none mX11_drawn (d + 6) 0 0 60 [some (vr 0), some (vi seed), some (vi n), some (vi e'), some (vi n)] [] h' 1000000 Q) → ma_J none mX11_drawn (d + 6) 0 0 34 [some (vr 0), some (vi seed), some (vi n), some (vi e), some (vi i)] [] h 1000000 Q := by
  intro r
  induction r with
  | zero =>
    intro i e h s t G i0 ir hx hS h5 h6 hG hC KO
    refine ma_iload dX11_drawn_34 rfl ?_
    refine ma_iload_n dX11_drawn_36 rfl ?_
    refine ma_rcmp_ge 60 dX11_drawn_37 rfl (by constructor <;> omega) (by constructor <;> omega) (fun c37 => ?_) (fun c37 => ?_)
    · -- 60
      have e4 : i = n := by omega
      subst e4
      exact KO h t G e s ⟨rfl, rfl, rfl⟩ (kp_rf _ _) hS hx h5 h6
    · -- 40
      exact absurd c37 (by omega)
  | succ r ih =>
    intro i e h s t G i0 ir hx hS h5 h6 hG hC KO
    refine ma_iload dX11_drawn_34 rfl ?_
    refine ma_iload_n dX11_drawn_36 rfl ?_
    refine ma_rcmp_ge 60 dX11_drawn_37 rfl (by constructor <;> omega) (by constructor <;> omega) (fun c37 => ?_) (fun c37 => ?_)
    · -- 60
      exact absurd c37 (by omega)
    · -- 40
      refine ma_aload_n dX11_drawn_40 rfl ?_
      refine ma_aload_n dX11_drawn_41 rfl ?_
      refine ma_getf dX11_drawn_42 fX11_19 (by assumption) (by rfl) ?_
      refine ma_cV [_] dX11_drawn_45 wX11_drawOne lX11_301 iX11_drawOne sX11_drawOne rfl (by assumption) (Nat.le_of_ble_eq_true rfl) ?_
      refine c_X11_drawOne hx hS h5 h6 hG hC (fun h' t1 G1 ok r hone hr1 hr0 hrb k1 k2 k3 k4 k5 => ?_)
      have vv := one_ok hG hC hone
      refine ma_rif_lt 54 dX11_drawn_48 rfl (by constructor <;> omega) (fun c48 => ?_) (fun c48 => ?_)
      · -- 54
        refine ma_iincN dX11_drawn_54 rfl (by decide) rfl ?_
        refine ma_goto 34 dX11_drawn_57 rfl ?_
        exact ih (i + 1) _ h' (dend s) t1 G1 (by omega) (by omega) k3 k2 k4 k5 vv.1 vv.2 (fun h'' t'' G'' e'' s'' dd a1 a2 a3 a4 a5 => KO h'' t'' G'' e'' s'' ⟨t1, G1, ok, hone, by rw [show ok = 0 by rcases hone with ⟨-, -, -, z⟩ | ⟨-, -, -, z⟩ <;> omega, Int.add_zero]; exact dd⟩ (kp_tr k1 a1) a2 a3 a4 a5)
      · -- 51
        refine ma_iincN dX11_drawn_51 rfl (by decide) rfl ?_
        refine ma_iincN dX11_drawn_54 rfl (by decide) rfl ?_
        refine ma_goto 34 dX11_drawn_57 rfl ?_
        exact ih (i + 1) _ h' (dend s) t1 G1 (by omega) (by omega) k3 k2 k4 k5 vv.1 vv.2 (fun h'' t'' G'' e'' s'' dd a1 a2 a3 a4 a5 => KO h'' t'' G'' e'' s'' ⟨t1, G1, ok, hone, by rw [show ok = 1 by rcases hone with ⟨-, -, -, z⟩ | ⟨-, -, -, z⟩ <;> omega]; exact dd⟩ (kp_tr k1 a1) a2 a3 a4 a5)
theorem bh_up {h : ma_H} {E X D F P Z N S q : Int → Int} {ec pc : Int} {k : Nat} {c : ma_C} (hk : k < 44 ∨ 53 < k) : ma_up (bh h E X D F P Z N S q ec pc) k c = bh (ma_up h k c) E X D F P Z N S q ec pc := by
  funext j
  by_cases e : j = k
  · subst e
    rw [ma_up_s, bh_n hk, ma_up_s]
  · rw [ma_up_n e]
    unfold bh
    simp only [ma_up, if_neg e]
theorem drw_b : ∀ (n : Nat) {s t e t' e' : Int} {G G' : Int → Int}, DRW n s t G e t' G' e' → e ≤ e' ∧ e' ≤ e + n
  | 0, _, _, _, _, _, _, _, h => by
    obtain ⟨-, -, e3⟩ := h
    omega
  | n + 1, _, _, _, _, _, _, _, h => by
    obtain ⟨t1, G1, ok, h1, h2⟩ := h
    have q := drw_b n h2
    have o1 : ok = 0 ∨ ok = 1 := by
      rcases h1 with ⟨-, -, -, z⟩ | ⟨-, -, -, z⟩ <;> omega
    omega
set_option maxHeartbeats 2000000 in
theorem c_X11_drawn {h : ma_H} {d : Nat} {t u s0 sz seed n : Int} {G F0 N0 : Int → Int} {Q : Option ma_V → ma_H → Nat → Prop} (hx : h 0 = co 11 (xo s0)) (hS : SC h) (h1 : h 1 = co 8 [vi t, vr 2]) (h2 : h 2 = ci 32 G) (h5 : h 5 = co 8 [vi u, vr 6]) (h6 : h 6 = ci 32 F0) (h31 : h 31 = co 9 [vi sz, vr 32]) (h32 : h 32 = cl 65 N0) (hG : VG t G) (hC : CN t G) (rs : rg seed) (rn : rg n) (K1 : ¬ (1 ≤ n ∧ n ≤ 12) → Q (some (vi (-1))) h 1000000) (K : 1 ≤ n ∧ n ≤ 12 → ∀ h' t' G' e' s' E P fl, DRW n.toNat seed t G 0 t' G' e' → BP t' G' E P → (fl = 1 ∧ MF t' G' E P) ∨ (fl = 0 ∧ ¬ MF t' G' E P) → kp h h' (0 :: 5 :: 6 :: 31 :: 32 :: scl) → SC h' → h' 0 = co 11 (xo s') → h' 5 = co 8 [vi t', vr 6] → h' 6 = ci 32 G' → h' 31 = co 9 [vi 2, vr 32] → h' 32 = cl 65 (uf (uf N0 0 e') 1 fl) → Q (some (vi t')) h' 1000000) : ma_Ct mX11_drawn (d + 6) 0 0 [vr 0, vi seed, vi n] h 1000000 Q := by
  have ht := hG.1
  unfold rg at rs rn
  refine ma_Ct.of (by decide +kernel) (Nat.le_of_ble_eq_true rfl) ?_
  refine ma_iload_n dX11_drawn_0 rfl ?_
  refine ma_iconst dX11_drawn_1 ?_
  refine ma_rcmp_lt 11 dX11_drawn_2 rfl (by constructor <;> omega) (by constructor <;> omega) (fun c2 => ?_) (fun c2 => ?_)
  · -- 11
    refine ma_iconst dX11_drawn_11 ?_
    exact ma_iret dX11_drawn_12 rfl (K1 (by omega))
  · -- 5
    refine ma_iload_n dX11_drawn_5 rfl ?_
    refine ma_bipush dX11_drawn_6 ?_
    refine ma_rcmp_le 13 dX11_drawn_8 rfl (by constructor <;> omega) (by constructor <;> omega) (fun c8 => ?_) (fun c8 => ?_)
    · -- 13
      refine ma_aload_n dX11_drawn_13 rfl ?_
      refine ma_iload_n dX11_drawn_14 rfl ?_
      refine ma_puti dX11_drawn_15 fX11_298 (by first | exact ma_up_s _ _ _ | assumption | exact (ma_up_n (by decide)).trans (by assumption)) (Nat.le_of_ble_eq_true rfl) ?_
      rw [show (xo s0).set 14 (vi seed) = xo seed from rfl]
      refine ma_aload_n dX11_drawn_18 rfl ?_
      refine ma_getf dX11_drawn_19 fX11_19 (by first | exact ma_up_s _ _ _ | assumption | exact (ma_up_n (by decide)).trans (by assumption)) (by rfl) ?_
      refine ma_aload_n dX11_drawn_22 rfl ?_
      refine ma_getf dX11_drawn_23 fX11_10 (by first | exact ma_up_s _ _ _ | assumption | exact (ma_up_n (by decide)).trans (by assumption)) (by rfl) ?_
      refine ma_cV [_] dX11_drawn_26 wX8_copy lX11_120 iX8_copy sX8_copy rfl (by first | exact ma_up_s _ _ _ | assumption | exact (ma_up_n (by decide)).trans (by assumption)) (Nat.le_of_ble_eq_true rfl) ?_
      refine c_X8_copy ((ma_up_n (by decide)).trans h5) ((ma_up_n (by decide)).trans h6) ((ma_up_n (by decide)).trans h1) ((ma_up_n (by decide)).trans h2) (by decide) (by decide) (by decide) ?_
      refine ma_iconst dX11_drawn_29 ?_
      refine ma_istore_nN dX11_drawn_30 (by decide) rfl ?_
      refine ma_iconst dX11_drawn_31 ?_
      refine ma_istoreN dX11_drawn_32 (by decide) rfl ?_
      have hn : 1 ≤ n ∧ n ≤ 12 := ⟨by omega, by omega⟩
      have k0 : kp h (ma_up (ma_up (ma_up h 0 (co 11 (xo seed))) 5 (co 8 [vi t, vr 6])) 6 (ci 32 G)) (0 :: 5 :: 6 :: 31 :: 32 :: scl) := kp_up (by simp) (kp_up (by simp) (kp_up (by simp) (kp_rf _ _)))
      have hS1 : SC (ma_up (ma_up (ma_up h 0 (co 11 (xo seed))) 5 (co 8 [vi t, vr 6])) 6 (ci 32 G)) := sc_up (by decide) (sc_up (by decide) (sc_up (by decide) hS))
      refine l_dn34 hn n.toNat 0 0 _ seed t G (by omega) (by omega) ((ma_up_n (by decide)).trans ((ma_up_n (by decide)).trans (ma_up_s _ _ _))) hS1 ((ma_up_n (by decide)).trans (ma_up_s _ _ _)) (ma_up_s _ _ _) hG hC (fun hd t' G' e' s' dd a0 a1 a2 a3 a4 => ?_)
      have vv := drw_ok n.toNat hG hC dd
      have eb := drw_b n.toNat dd
      have e31 : hd 31 = co 9 [vi sz, vr 32] := (a0 31 (by decide)).trans ((ma_up_n (by decide)).trans ((ma_up_n (by decide)).trans ((ma_up_n (by decide)).trans h31)))
      have e32 : hd 32 = cl 65 N0 := (a0 32 (by decide)).trans ((ma_up_n (by decide)).trans ((ma_up_n (by decide)).trans ((ma_up_n (by decide)).trans h32)))
      obtain ⟨E0, X0, D0, F1, P0, Z0, N1, S0, q0, ec0, pc0, b45, b46, b47, b48, b49, b50, b51, b52, b53, b44⟩ := a1.2.2.2.2.1
      rw [bh_of b45 b46 b47 b48 b49 b50 b51 b52 b53 b44]
      refine ma_aload_n dX11_drawn_60 rfl ?_
      refine ma_getf dX11_drawn_61 fX11_68 (by first | exact ma_up_s _ _ _ | exact (ma_up_n (by decide)).trans (ma_up_s _ _ _) | exact (bh_n (by decide)).trans (by assumption) | exact bh_44 | exact (bh_n (by decide)).trans ((ma_up_n (by decide)).trans (by assumption)) | exact (bh_n (by decide)).trans (ma_up_s _ _ _) | exact (bh_n (by decide)).trans ((ma_up_n (by decide)).trans ((ma_up_n (by decide)).trans (by assumption))) | assumption) (by rfl) ?_
      refine ma_aload_n dX11_drawn_64 rfl ?_
      refine ma_getf dX11_drawn_65 fX11_19 (by first | exact ma_up_s _ _ _ | exact (ma_up_n (by decide)).trans (ma_up_s _ _ _) | exact (bh_n (by decide)).trans (by assumption) | exact bh_44 | exact (bh_n (by decide)).trans ((ma_up_n (by decide)).trans (by assumption)) | exact (bh_n (by decide)).trans (ma_up_s _ _ _) | exact (bh_n (by decide)).trans ((ma_up_n (by decide)).trans ((ma_up_n (by decide)).trans (by assumption))) | assumption) (by rfl) ?_
      refine ma_cV [_] dX11_drawn_68 wX7_read lX11_170 iX7_read sX7_read rfl (by first | exact ma_up_s _ _ _ | exact (ma_up_n (by decide)).trans (ma_up_s _ _ _) | exact (bh_n (by decide)).trans (by assumption) | exact bh_44 | exact (bh_n (by decide)).trans ((ma_up_n (by decide)).trans (by assumption)) | exact (bh_n (by decide)).trans (ma_up_s _ _ _) | exact (bh_n (by decide)).trans ((ma_up_n (by decide)).trans ((ma_up_n (by decide)).trans (by assumption))) | assumption) (Nat.le_of_ble_eq_true rfl) ?_
      refine c_X7_read a3 a4 (by decide) (by decide) vv.1 (fun E P q hB => ?_)
      refine ma_aload_n dX11_drawn_71 rfl ?_
      refine ma_getf dX11_drawn_72 fX11_40 (by first | exact ma_up_s _ _ _ | exact (ma_up_n (by decide)).trans (ma_up_s _ _ _) | exact (bh_n (by decide)).trans (by assumption) | exact bh_44 | exact (bh_n (by decide)).trans ((ma_up_n (by decide)).trans (by assumption)) | exact (bh_n (by decide)).trans (ma_up_s _ _ _) | exact (bh_n (by decide)).trans ((ma_up_n (by decide)).trans ((ma_up_n (by decide)).trans (by assumption))) | assumption) (by rfl) ?_
      refine ma_cV [] dX11_drawn_75 wX9_clear lX11_141 iX9_clear sX9_clear rfl (by first | exact ma_up_s _ _ _ | exact (ma_up_n (by decide)).trans (ma_up_s _ _ _) | exact (bh_n (by decide)).trans (by assumption) | exact bh_44 | exact (bh_n (by decide)).trans ((ma_up_n (by decide)).trans (by assumption)) | exact (bh_n (by decide)).trans (ma_up_s _ _ _) | exact (bh_n (by decide)).trans ((ma_up_n (by decide)).trans ((ma_up_n (by decide)).trans (by assumption))) | assumption) (Nat.le_of_ble_eq_true rfl) ?_
      refine c_X9_clear ((bh_n (by decide)).trans e31) ?_
      rw [bh_up (by decide)]
      refine ma_aload_n dX11_drawn_78 rfl ?_
      refine ma_getf dX11_drawn_79 fX11_40 (by first | exact ma_up_s _ _ _ | exact (ma_up_n (by decide)).trans (ma_up_s _ _ _) | exact (bh_n (by decide)).trans (by assumption) | exact bh_44 | exact (bh_n (by decide)).trans ((ma_up_n (by decide)).trans (by assumption)) | exact (bh_n (by decide)).trans (ma_up_s _ _ _) | exact (bh_n (by decide)).trans ((ma_up_n (by decide)).trans ((ma_up_n (by decide)).trans (by assumption))) | assumption) (by rfl) ?_
      refine ma_iload_n dX11_drawn_82 rfl ?_
      refine ma_i2l dX11_drawn_83 ?_
      refine ma_cV [_] dX11_drawn_84 wX9_add lX11_144 iX9_add sX9_add rfl (by first | exact ma_up_s _ _ _ | exact (ma_up_n (by decide)).trans (ma_up_s _ _ _) | exact (bh_n (by decide)).trans (by assumption) | exact bh_44 | exact (bh_n (by decide)).trans ((ma_up_n (by decide)).trans (by assumption)) | exact (bh_n (by decide)).trans (ma_up_s _ _ _) | exact (bh_n (by decide)).trans ((ma_up_n (by decide)).trans ((ma_up_n (by decide)).trans (by assumption))) | assumption) (Nat.le_of_ble_eq_true rfl) ?_
      refine c_X9_add ((bh_n (by decide)).trans (ma_up_s _ _ _)) ((bh_n (by decide)).trans ((ma_up_n (by decide)).trans e32)) (by decide) (by decide) ?_
      rw [bh_up (by decide), bh_up (by decide), iw_of (by omega) (by omega)]
      refine ma_aload_n dX11_drawn_87 rfl ?_
      refine ma_getf dX11_drawn_88 fX11_40 (by first | exact ma_up_s _ _ _ | exact (ma_up_n (by decide)).trans (ma_up_s _ _ _) | exact (bh_n (by decide)).trans (by assumption) | exact bh_44 | exact (bh_n (by decide)).trans ((ma_up_n (by decide)).trans (by assumption)) | exact (bh_n (by decide)).trans (ma_up_s _ _ _) | exact (bh_n (by decide)).trans ((ma_up_n (by decide)).trans ((ma_up_n (by decide)).trans (by assumption))) | assumption) (by rfl) ?_
      refine ma_aload_n dX11_drawn_91 rfl ?_
      refine ma_aload_n dX11_drawn_92 rfl ?_
      refine ma_getf dX11_drawn_93 fX11_19 (by first | exact ma_up_s _ _ _ | exact (ma_up_n (by decide)).trans (ma_up_s _ _ _) | exact (bh_n (by decide)).trans (by assumption) | exact bh_44 | exact (bh_n (by decide)).trans ((ma_up_n (by decide)).trans (by assumption)) | exact (bh_n (by decide)).trans (ma_up_s _ _ _) | exact (bh_n (by decide)).trans ((ma_up_n (by decide)).trans ((ma_up_n (by decide)).trans (by assumption))) | assumption) (by rfl) ?_
      refine ma_cV [_] dX11_drawn_96 wX11_isManifold lX11_227 iX11_isManifold sX11_isManifold rfl (by first | exact ma_up_s _ _ _ | exact (ma_up_n (by decide)).trans (ma_up_s _ _ _) | exact (bh_n (by decide)).trans (by assumption) | exact bh_44 | exact (bh_n (by decide)).trans ((ma_up_n (by decide)).trans (by assumption)) | exact (bh_n (by decide)).trans (ma_up_s _ _ _) | exact (bh_n (by decide)).trans ((ma_up_n (by decide)).trans ((ma_up_n (by decide)).trans (by assumption))) | assumption) (Nat.le_of_ble_eq_true rfl) ?_
      refine c_X11_isManifold ((ma_up_n (by decide)).trans ((ma_up_n (by decide)).trans ((ma_up_n (by decide)).trans a2))) ((ma_up_n (by decide)).trans ((ma_up_n (by decide)).trans ((ma_up_n (by decide)).trans a3))) ((ma_up_n (by decide)).trans ((ma_up_n (by decide)).trans ((ma_up_n (by decide)).trans a4))) (by decide) (by decide) vv.1 hB (fun hmf => ?_) (fun hmf => ?_)
      · -- manifold
        refine ma_cV [_] dX11_drawn_99 wX9_addFlag lX11_179 iX9_addFlag sX9_addFlag rfl (by first | exact ma_up_s _ _ _ | exact (ma_up_n (by decide)).trans (ma_up_s _ _ _) | exact (bh_n (by decide)).trans (by assumption) | exact bh_44 | exact (bh_n (by decide)).trans ((ma_up_n (by decide)).trans (by assumption)) | exact (bh_n (by decide)).trans (ma_up_s _ _ _) | exact (bh_n (by decide)).trans ((ma_up_n (by decide)).trans ((ma_up_n (by decide)).trans (by assumption))) | assumption) (Nat.le_of_ble_eq_true rfl) ?_
        refine c_X9_addFlag ((bh_n (by decide)).trans (ma_up_s _ _ _)) ((bh_n (by decide)).trans ((ma_up_n (by decide)).trans (ma_up_s _ _ _))) (by decide) (by decide) (by decide) ?_
        rw [bh_up (by decide), bh_up (by decide)]
        refine ma_aload_n dX11_drawn_102 rfl ?_
        refine ma_getf dX11_drawn_103 fX11_19 ((bh_n (by decide)).trans ((ma_up_n (by decide)).trans ((ma_up_n (by decide)).trans ((ma_up_n (by decide)).trans ((ma_up_n (by decide)).trans ((ma_up_n (by decide)).trans a2)))))) (by rfl) ?_
        refine ma_getf dX11_drawn_106 fX11_123 ((bh_n (by decide)).trans ((ma_up_n (by decide)).trans ((ma_up_n (by decide)).trans ((ma_up_n (by decide)).trans ((ma_up_n (by decide)).trans ((ma_up_n (by decide)).trans a3)))))) (by rfl) ?_
        exact ma_iret dX11_drawn_109 rfl (K hn _ t' G' e' s' E P 1 dd hB (Or.inl ⟨rfl, hmf⟩) (kp_tr (kp_tr (kp_mo (by simp) k0) (kp_mo (by simp) a0)) (kp_tr (kp_up (by simp) (kp_up (by simp) (kp_up (by simp) (kp_up (by simp) (kp_up (by simp) (kp_rf _ _)))))) (kp_mo (by simp) kp_bh))) (sc_bh (sc_up (by decide) (sc_up (by decide) (sc_up (by decide) (sc_up (by decide) (sc_up (by decide) a1)))))) ((bh_n (by decide)).trans ((ma_up_n (by decide)).trans ((ma_up_n (by decide)).trans ((ma_up_n (by decide)).trans ((ma_up_n (by decide)).trans ((ma_up_n (by decide)).trans a2)))))) ((bh_n (by decide)).trans ((ma_up_n (by decide)).trans ((ma_up_n (by decide)).trans ((ma_up_n (by decide)).trans ((ma_up_n (by decide)).trans ((ma_up_n (by decide)).trans a3)))))) ((bh_n (by decide)).trans ((ma_up_n (by decide)).trans ((ma_up_n (by decide)).trans ((ma_up_n (by decide)).trans ((ma_up_n (by decide)).trans ((ma_up_n (by decide)).trans a4)))))) ((bh_n (by decide)).trans (ma_up_s _ _ _)) ((bh_n (by decide)).trans ((ma_up_n (by decide)).trans (ma_up_s _ _ _))))
      · -- not
        refine ma_cV [_] dX11_drawn_99 wX9_addFlag lX11_179 iX9_addFlag sX9_addFlag rfl (by first | exact ma_up_s _ _ _ | exact (ma_up_n (by decide)).trans (ma_up_s _ _ _) | exact (bh_n (by decide)).trans (by assumption) | exact bh_44 | exact (bh_n (by decide)).trans ((ma_up_n (by decide)).trans (by assumption)) | exact (bh_n (by decide)).trans (ma_up_s _ _ _) | exact (bh_n (by decide)).trans ((ma_up_n (by decide)).trans ((ma_up_n (by decide)).trans (by assumption))) | assumption) (Nat.le_of_ble_eq_true rfl) ?_
        refine c_X9_addFlag ((bh_n (by decide)).trans (ma_up_s _ _ _)) ((bh_n (by decide)).trans ((ma_up_n (by decide)).trans (ma_up_s _ _ _))) (by decide) (by decide) (by decide) ?_
        rw [bh_up (by decide), bh_up (by decide)]
        refine ma_aload_n dX11_drawn_102 rfl ?_
        refine ma_getf dX11_drawn_103 fX11_19 ((bh_n (by decide)).trans ((ma_up_n (by decide)).trans ((ma_up_n (by decide)).trans ((ma_up_n (by decide)).trans ((ma_up_n (by decide)).trans ((ma_up_n (by decide)).trans a2)))))) (by rfl) ?_
        refine ma_getf dX11_drawn_106 fX11_123 ((bh_n (by decide)).trans ((ma_up_n (by decide)).trans ((ma_up_n (by decide)).trans ((ma_up_n (by decide)).trans ((ma_up_n (by decide)).trans ((ma_up_n (by decide)).trans a3)))))) (by rfl) ?_
        exact ma_iret dX11_drawn_109 rfl (K hn _ t' G' e' s' E P 0 dd hB (Or.inr ⟨rfl, hmf⟩) (kp_tr (kp_tr (kp_mo (by simp) k0) (kp_mo (by simp) a0)) (kp_tr (kp_up (by simp) (kp_up (by simp) (kp_up (by simp) (kp_up (by simp) (kp_up (by simp) (kp_rf _ _)))))) (kp_mo (by simp) kp_bh))) (sc_bh (sc_up (by decide) (sc_up (by decide) (sc_up (by decide) (sc_up (by decide) (sc_up (by decide) a1)))))) ((bh_n (by decide)).trans ((ma_up_n (by decide)).trans ((ma_up_n (by decide)).trans ((ma_up_n (by decide)).trans ((ma_up_n (by decide)).trans ((ma_up_n (by decide)).trans a2)))))) ((bh_n (by decide)).trans ((ma_up_n (by decide)).trans ((ma_up_n (by decide)).trans ((ma_up_n (by decide)).trans ((ma_up_n (by decide)).trans ((ma_up_n (by decide)).trans a3)))))) ((bh_n (by decide)).trans ((ma_up_n (by decide)).trans ((ma_up_n (by decide)).trans ((ma_up_n (by decide)).trans ((ma_up_n (by decide)).trans ((ma_up_n (by decide)).trans a4)))))) ((bh_n (by decide)).trans (ma_up_s _ _ _)) ((bh_n (by decide)).trans ((ma_up_n (by decide)).trans (ma_up_s _ _ _))))
    · -- 11
      refine ma_iconst dX11_drawn_11 ?_
      exact ma_iret dX11_drawn_12 rfl (K1 (by omega))
