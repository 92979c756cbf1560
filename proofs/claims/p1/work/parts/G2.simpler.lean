/-- the first place at which it is made simpler; none -/
def FS (t : Int) (G E P : Int → Int) (k : Int) : Prop := RF t G E P k = 0 ∧ ((168 ≤ k ∧ k < 200 ∧ ∀ j, 168 ≤ j → j < k → RF t G E P j ≠ 0) ∨ (32 ≤ k ∧ k < 160 ∧ (∀ j, 168 ≤ j → j < 200 → RF t G E P j ≠ 0) ∧ ∀ j, 32 ≤ j → j < k → RF t G E P j ≠ 0))
def FN (t : Int) (G E P : Int → Int) : Prop := (∀ j, 168 ≤ j → j < 200 → RF t G E P j ≠ 0) ∧ ∀ j, 32 ≤ j → j < 160 → RF t G E P j ≠ 0
/-- made simpler, one by one -/
def SIM : Nat → Int → (Int → Int) → Int → Int → (Int → Int) → Int → Prop
  | 0, t, G, e, t', G', e' => ∃ E P, BP t G E P ∧ FN t G E P ∧ t' = t ∧ G' = G ∧ e' = e
  | r + 1, t, G, e, t', G', e' => (∃ E P, BP t G E P ∧ FN t G E P ∧ t' = t ∧ G' = G ∧ e' = e) ∨ ∃ E P k t1 G1, BP t G E P ∧ FS t G E P k ∧ STP t G k t1 G1 ∧ SIM r t1 G1 (e + 1) t' G' e'
theorem fs_k {t : Int} {G E P : Int → Int} {k : Int} (h : FS t G E P k) : (0 ≤ k ∧ k < 200) ∧ ((32 ≤ k ∧ k < 160) ∨ 168 ≤ k) ∧ gr k ≤ -1 ∧ -3 ≤ gr k := by
  unfold gr
  rcases h.2 with a | a
  · rw [if_neg (by omega), if_neg (by omega)]; omega
  · rw [if_pos (by omega), if_neg (by omega)]; omega
theorem l_fb3 {h : ma_H} {b g nx d : Nat} {t : Int} {G E P q : Int → Int} {Q : Option ma_V → ma_H → Nat → Prop} (hb : h b = co 8 [vi t, vr g]) (hg : h g = ci 32 G) (nb : b < 44 ∨ 53 < b) (ng : g < 44 ∨ 53 < g) (hG : VG t G) (hm : h 54 = co 1 [vr 44, vr 39, vr 55, vr 57, vr 58]) (hB : BP t G E P) {a c : Int} (ac : 0 ≤ a ∧ a ≤ c ∧ c ≤ 200) (K1 : ∀ k, a ≤ k → k < c → RF t G E P k = 0 → (∀ j, a ≤ j → j < k → RF t G E P j ≠ 0) → Q (some (vi k)) (br h t G E P q) nx) (K0 : (∀ j, a ≤ j → j < c → RF t G E P j ≠ 0) → Q (some (vi (-1))) (br h t G E P q) nx) :
    ∀ (m : Nat) (k : Int), a ≤ k → k ≤ c → c - k < m → (∀ j, a ≤ j → j < k → RF t G E P j ≠ 0) → ma_J none mX1_firstBetween (d + 4) 0 0 3 [some (vr 54), some (vr b), some (vi a), some (vi c), some (vi k)] [] (br h t G E P q) nx Q := by
  intro m
  induction m with
  | zero => intro k k0 k1 km; omega
  | succ m ih =>
    intro k k0 k1 km hk
    refine ma_iload dX1_firstBetween_3 rfl ?_
    refine ma_iload_n dX1_firstBetween_5 rfl ?_
    refine ma_rcmp_ge 28 dX1_firstBetween_6 rfl (by constructor <;> omega) (by constructor <;> omega) (fun c6 => ?_) (fun c6 => ?_)
    · -- 28
      refine ma_iconst dX1_firstBetween_28 ?_
      exact ma_iret dX1_firstBetween_29 rfl (K0 (fun j j0 j1 => hk j j0 (by omega)))
    · -- 9
      refine ma_aload_n dX1_firstBetween_9 rfl ?_
      refine ma_aload_n dX1_firstBetween_10 rfl ?_
      refine ma_iload dX1_firstBetween_11 rfl ?_
      refine ma_cV [_, _] dX1_firstBetween_13 wX1_refusal lX1_43 iX1_refusal sX1_refusal rfl (by exact (bh_n (by first | omega | assumption)).trans hm) (Nat.le_of_ble_eq_true rfl) ?_
      refine c_X1_refusal hb hg nb ng hG hm hB (by omega) ?_
      have rb := RF_in (t := t) (G := G) (E := E) (P := P) (k := k)
      refine ma_rif_ne 22 dX1_firstBetween_16 rfl (by constructor <;> omega) (fun c16 => ?_) (fun c16 => ?_)
      · -- 22
        refine ma_iincN dX1_firstBetween_22 rfl (by decide) rfl ?_
        refine ma_goto 3 dX1_firstBetween_25 rfl ?_
        refine ih (k + 1) (by omega) (by omega) (by omega) (fun j j0 j1 => ?_)
        rcases Int.lt_or_eq_of_le (show j ≤ k by omega) with z | z
        · exact hk j j0 z
        · rw [z]; exact c16
      · -- 19
        refine ma_iload dX1_firstBetween_19 rfl ?_
        exact ma_iret dX1_firstBetween_21 rfl (K1 k k0 (by omega) c16 hk)
theorem c_X1_firstBetween {h : ma_H} {b g nx d : Nat} {t : Int} {G E P q : Int → Int} {Q : Option ma_V → ma_H → Nat → Prop} (hb : h b = co 8 [vi t, vr g]) (hg : h g = ci 32 G) (nb : b < 44 ∨ 53 < b) (ng : g < 44 ∨ 53 < g) (hG : VG t G) (hm : h 54 = co 1 [vr 44, vr 39, vr 55, vr 57, vr 58]) (hB : BP t G E P) {a c : Int} (ac : 0 ≤ a ∧ a ≤ c ∧ c ≤ 200) (K1 : ∀ k, a ≤ k → k < c → RF t G E P k = 0 → (∀ j, a ≤ j → j < k → RF t G E P j ≠ 0) → Q (some (vi k)) (br h t G E P q) nx) (K0 : (∀ j, a ≤ j → j < c → RF t G E P j ≠ 0) → Q (some (vi (-1))) (br h t G E P q) nx) : ma_Ct mX1_firstBetween (d + 4) 0 0 [vr 54, vr b, vi a, vi c] (br h t G E P q) nx Q := by
  refine ma_Ct.of (by decide +kernel) (Nat.le_of_ble_eq_true rfl) ?_
  refine ma_iload_n dX1_firstBetween_0 rfl ?_
  refine ma_istoreN dX1_firstBetween_1 (by decide) rfl ?_
  exact l_fb3 hb hg nb ng hG hm hB ac K1 K0 201 a (by omega) (by omega) (by omega) (fun j j0 j1 => by omega)
theorem l_si41 {h : ma_H} {b g d : Nat} {t k : Int} {G E P : Int → Int} {Q : Option ma_V → ma_H → Nat → Prop} (sb : b < 39 ∨ 58 < b) (sg : g < 39 ∨ 58 < g) (nbg : b ≠ g) (hS : SC h) (hb : h b = co 8 [vi t, vr g]) (hg : h g = ci 32 G) (hG : VG t G) (hC : CN t G) (hB : BP t G E P) (hF : FS t G E P k) (K : ∀ h' C L ties t1, t1 = t + gr k → MR t G k t1 C → LI t1 C L (24 * t1) ties → kp h h' (b :: g :: scl) → SC h' → h' b = co 8 [vi t1, vr g] → h' g = ci 32 (stl t1 C L) → Q (some (vi 1)) h' 1000000) : ma_J none mX1_simplify (d + 5) 0 0 41 [some (vr 54), some (vr b), some (vi k)] [] h 1000000 Q := by
  obtain ⟨hm, hn, hs, hv, hSB, u, F, hx, hy⟩ := hS
  have fk := fs_k hF
  refine ma_aload_n dX1_simplify_41 rfl ?_
  refine ma_aload_n dX1_simplify_42 rfl ?_
  refine ma_iload_n dX1_simplify_43 rfl ?_
  refine ma_aload_n dX1_simplify_44 rfl ?_
  refine ma_getf dX1_simplify_45 fX1_12 (by assumption) (by rfl) ?_
  refine ma_cV [_, _, _] dX1_simplify_48 wX1_make lX1_47 iX1_make sX1_make rfl (by assumption) (Nat.le_of_ble_eq_true rfl) ?_
  refine c_X1_make (h := h) (c := 55) (e := 56) (t1 := t + gr k) (E := E) (P := P) sb sg (Or.inl ⟨rfl, rfl⟩) ⟨by omega, by omega, by omega, by omega⟩ hm hn hb hg hx hy hs hv hG hC fk.1 hF.1 (fun _ => hB) rfl (fun h' C L ties kk a55 a56 as av mr li => ?_)
  have hb' := (kk b (by simp; omega)).trans hb
  have hg' := (kk g (by simp; omega)).trans hg
  have hm' := (kk 54 (by simp)).trans hm
  refine ma_aload_n dX1_simplify_51 rfl ?_
  refine ma_aload_n dX1_simplify_52 rfl ?_
  refine ma_getf dX1_simplify_53 fX1_12 (by assumption) (by rfl) ?_
  refine ma_cV [_] dX1_simplify_56 wX8_copy lX1_51 iX8_copy sX8_copy rfl (by assumption) (Nat.le_of_ble_eq_true rfl) ?_
  refine c_X8_copy hb' hg' a55 a56 nbg (by omega) (by omega) ?_
  have hbb : (ma_up (ma_up h' b (co 8 [vi (t + gr k), vr g])) g (ci 32 (stl (t + gr k) C L))) b = co 8 [vi (t + gr k), vr g] := (ma_up_n nbg).trans (ma_up_s _ _ _)
  refine ma_iconst dX1_simplify_59 ?_
  refine ma_zret dX1_simplify_60 rfl (Or.inr rfl) (K _ C L ties (t + gr k) rfl mr li ?_ ⟨?_, ?_, ?_, ?_, ?_, ?_⟩ hbb (ma_up_s _ _ _))
  · refine kp_up (by simp) (kp_up (by simp) (kp_mo ?_ kk))
    intro x hx
    simp only [List.mem_cons, List.not_mem_nil, or_false] at hx ⊢
    omega
  · exact (ma_up_n (by omega)).trans ((ma_up_n (by omega)).trans hm')
  · exact (ma_up_n (by omega)).trans ((ma_up_n (by omega)).trans ((kk 39 (by simp)).trans hn))
  · obtain ⟨L', A', B', C', c1, c2, c3, c4⟩ := as
    exact ⟨L', A', B', C', (ma_up_n (by omega)).trans ((ma_up_n (by omega)).trans c1), (ma_up_n (by omega)).trans ((ma_up_n (by omega)).trans c2), (ma_up_n (by omega)).trans ((ma_up_n (by omega)).trans c3), (ma_up_n (by omega)).trans ((ma_up_n (by omega)).trans c4)⟩
  · obtain ⟨H, T, v1, v2⟩ := av
    exact ⟨H, T, (ma_up_n (by omega)).trans ((ma_up_n (by omega)).trans v1), (ma_up_n (by omega)).trans ((ma_up_n (by omega)).trans v2)⟩
  · refine sb_kp (l := [b, g]) (kp_up (by simp) (kp_up (by simp) (kp_rf _ _))) (fun j j0 j1 => by simp; omega) (sb_kp kk (fun j j0 j1 => by simp; omega) hSB)
  · exact ⟨_, _, (ma_up_n (by omega)).trans ((ma_up_n (by omega)).trans a55), (ma_up_n (by omega)).trans ((ma_up_n (by omega)).trans a56)⟩
set_option maxHeartbeats 2000000 in
theorem c_X1_simplify {h : ma_H} {b g d : Nat} {t : Int} {G : Int → Int} {Q : Option ma_V → ma_H → Nat → Prop} (sb : b < 39 ∨ 58 < b) (sg : g < 39 ∨ 58 < g) (nbg : b ≠ g) (hS : SC h) (hb : h b = co 8 [vi t, vr g]) (hg : h g = ci 32 G) (hG : VG t G) (hC : CN t G) (K1 : ∀ h' E P k C L ties t1, BP t G E P → FS t G E P k → t1 = t + gr k → MR t G k t1 C → LI t1 C L (24 * t1) ties → kp h h' (b :: g :: scl) → SC h' → h' b = co 8 [vi t1, vr g] → h' g = ci 32 (stl t1 C L) → Q (some (vi 1)) h' 1000000) (K0 : ∀ h' E P, BP t G E P → FN t G E P → kp h h' (b :: g :: scl) → SC h' → h' b = co 8 [vi t, vr g] → h' g = ci 32 G → Q (some (vi 0)) h' 1000000) : ma_Ct mX1_simplify (d + 5) 0 0 [vr 54, vr b] h 1000000 Q := by
  have ht := hG.1
  have hm := hS.1
  obtain ⟨E0, X0, D0, F0, P0, Z0, N0, S0, q0, ec, pc, a45, a46, a47, a48, a49, a50, a51, a52, a53, a44⟩ := hS.2.2.2.2.1
  refine ma_Ct.of (by decide +kernel) (Nat.le_of_ble_eq_true rfl) ?_
  refine ma_aload_n dX1_simplify_0 rfl ?_
  refine ma_getf dX1_simplify_1 fX1_25 (by first | assumption | exact bh_44 | exact (bh_n (by omega)).trans (by assumption)) (by rfl) ?_
  refine ma_aload_n dX1_simplify_4 rfl ?_
  refine ma_cV [_] dX1_simplify_5 wX7_read lX1_37 iX7_read sX7_read rfl (by first | assumption | exact bh_44 | exact (bh_n (by omega)).trans (by assumption)) (Nat.le_of_ble_eq_true rfl) ?_
  rw [bh_of a45 a46 a47 a48 a49 a50 a51 a52 a53 a44]
  refine c_X7_read hb hg (by omega) (by omega) hG (fun E P q hB => ?_)
  refine ma_aload_n dX1_simplify_8 rfl ?_
  refine ma_aload_n dX1_simplify_9 rfl ?_
  refine ma_sipush dX1_simplify_10 ?_
  refine ma_sipush dX1_simplify_13 ?_
  refine ma_cV [_, _, _] dX1_simplify_16 wX1_firstBetween lX1_79 iX1_firstBetween sX1_firstBetween rfl (by first | assumption | exact bh_44 | exact (bh_n (by omega)).trans (by assumption)) (Nat.le_of_ble_eq_true rfl) ?_
  refine c_X1_firstBetween hb hg (by omega) (by omega) hG hm hB (by decide) (fun k k0 k1 r0 hkA => ?_) (fun hkA => ?_)
  · -- i
    refine ma_istore_nN dX1_simplify_19 (by decide) rfl ?_
    refine ma_iload_n dX1_simplify_20 rfl ?_
    refine ma_rif_ge 35 dX1_simplify_21 rfl (by constructor <;> omega) (fun c21 => ?_) (fun c21 => absurd c21 (by omega))
    refine ma_iload_n dX1_simplify_35 rfl ?_
    refine ma_rif_ge 41 dX1_simplify_36 rfl (by constructor <;> omega) (fun c36 => ?_) (fun c36 => absurd c36 (by omega))
    exact l_si41 sb sg nbg (sc_bh hS) ((bh_n (by omega)).trans hb) ((bh_n (by omega)).trans hg) hG hC hB ⟨r0, Or.inl ⟨k0, k1, hkA⟩⟩ (fun h' C L ties t1 e mr li kk s1 c1 c2 => K1 h' E P k C L ties t1 hB ⟨r0, Or.inl ⟨k0, k1, hkA⟩⟩ e mr li (kp_tr (kp_mo (fun x hx => List.mem_cons_of_mem _ (List.mem_cons_of_mem _ hx)) kp_bh) kk) s1 c1 c2)
  · -- k-1
    refine ma_istore_nN dX1_simplify_19 (by decide) rfl ?_
    refine ma_iload_n dX1_simplify_20 rfl ?_
    refine ma_rif_ge 35 dX1_simplify_21 rfl (by decide) (fun c21 => absurd c21 (by decide)) (fun c21 => ?_)
    refine ma_aload_n dX1_simplify_24 rfl ?_
    refine ma_aload_n dX1_simplify_25 rfl ?_
    refine ma_bipush dX1_simplify_26 ?_
    refine ma_sipush dX1_simplify_28 ?_
    refine ma_cV [_, _, _] dX1_simplify_31 wX1_firstBetween lX1_79 iX1_firstBetween sX1_firstBetween rfl (by first | assumption | exact bh_44 | exact (bh_n (by omega)).trans (by assumption)) (Nat.le_of_ble_eq_true rfl) ?_
    refine c_X1_firstBetween hb hg (by omega) (by omega) hG hm hB (by decide) (fun k k0 k1 r0 hkB => ?_) (fun hkB => ?_)
    · -- i
      refine ma_istore_nN dX1_simplify_34 (by decide) rfl ?_
      refine ma_iload_n dX1_simplify_35 rfl ?_
      refine ma_rif_ge 41 dX1_simplify_36 rfl (by constructor <;> omega) (fun c36 => ?_) (fun c36 => absurd c36 (by omega))
      exact l_si41 sb sg nbg (sc_bh hS) ((bh_n (by omega)).trans hb) ((bh_n (by omega)).trans hg) hG hC hB ⟨r0, Or.inr ⟨k0, k1, hkA, hkB⟩⟩ (fun h' C L ties t1 e mr li kk s1 c1 c2 => K1 h' E P k C L ties t1 hB ⟨r0, Or.inr ⟨k0, k1, hkA, hkB⟩⟩ e mr li (kp_tr (kp_mo (fun x hx => List.mem_cons_of_mem _ (List.mem_cons_of_mem _ hx)) kp_bh) kk) s1 c1 c2)
    · -- k-1
      refine ma_istore_nN dX1_simplify_34 (by decide) rfl ?_
      refine ma_iload_n dX1_simplify_35 rfl ?_
      refine ma_rif_ge 41 dX1_simplify_36 rfl (by decide) (fun c36 => absurd c36 (by decide)) (fun c36 => ?_)
      refine ma_iconst dX1_simplify_39 ?_
      exact ma_zret dX1_simplify_40 rfl (Or.inl rfl) (K0 _ E P hB ⟨hkA, hkB⟩ (kp_mo (fun x hx => List.mem_cons_of_mem _ (List.mem_cons_of_mem _ hx)) kp_bh) (sc_bh hS) ((bh_n (by omega)).trans hb) ((bh_n (by omega)).trans hg))
set_option maxHeartbeats 2000000 in
theorem l_sp15 {d : Nat} {q0 : Int} {Q : Option ma_V → ma_H → Nat → Prop} :
    ∀ (r : Nat) (i e : Int) (h : ma_H) (t : Int) (G : Int → Int), 0 ≤ i → i + r = 8 → h 0 = co 11 (xo q0) → SC h → h 1 = co 8 [vi t, vr 2] → h 2 = ci 32 G → VG t G → CN t G → (0 ≤ e ∧ e ≤ i) → t + i ≤ 8 → (∀ h' e' t' G' x, SIM r t G e t' G' e' → kp h h' (1 :: 2 :: scl) → SC h' → h' 1 = co 8 [vi t', vr 2] → h' 2 = ci 32 G' → VG t' G' → CN t' G' → e ≤ e' → e' ≤ e + r → ma_J none mX11_simpler (d + 6) 0 0 47 [some (vr 0), some (vi e'), some (vi x)] [] h' 1000000 Q) → ma_J none mX11_simpler (d + 6) 0 0 15 [some (vr 0), some (vi e), some (vi i)] [] h 1000000 Q := by
  intro r
  induction r with
  | zero =>
    intro i e h t G i0 ir hx hS h1 h2 hG hC eb tb K
    have ht := hG.1
    omega
  | succ r ih =>
    intro i e h t G i0 ir hx hS h1 h2 hG hC eb tb K
    have ht := hG.1
    refine ma_iload_n dX11_simpler_15 rfl ?_
    refine ma_bipush dX11_simpler_16 ?_
    refine ma_rcmp_ge 47 dX11_simpler_18 rfl (by constructor <;> omega) (by constructor <;> omega) (fun c18 => ?_) (fun c18 => ?_)
    · -- 47
      exact absurd c18 (by omega)
    · -- 21
      refine ma_aload_n dX11_simpler_21 rfl ?_
      refine ma_getf dX11_simpler_22 fX11_77 (by first | exact hx | exact hS.1 | exact h1) (by rfl) ?_
      refine ma_aload_n dX11_simpler_25 rfl ?_
      refine ma_getf dX11_simpler_26 fX11_10 (by first | exact hx | exact hS.1 | exact h1) (by rfl) ?_
      refine ma_cV [_] dX11_simpler_29 wX1_simplify lX11_284 iX1_simplify sX1_simplify rfl (by first | exact hx | exact hS.1 | exact h1) (Nat.le_of_ble_eq_true rfl) ?_
      refine c_X1_simplify (b := 1) (g := 2) (by decide) (by decide) (by decide) hS h1 h2 hG hC (fun h' E P k C L ties t1 hB hF et mr li kk s1 c1 c2 => ?_) (fun h' E P hB hF kk s1 c1 c2 => ?_)
      · -- k1
        refine ma_rif_ne 38 dX11_simpler_32 rfl (by decide) (fun c32 => ?_) (fun c32 => absurd c32 (by decide))
        refine ma_iincN dX11_simpler_38 rfl (by decide) rfl ?_
        refine ma_iincN dX11_simpler_41 rfl (by decide) rfl ?_
        refine ma_goto 15 dX11_simpler_44 rfl ?_
        have fk := fs_k hF
        have sp : STP t G k t1 (stl t1 C L) := ⟨et, C, L, ties, mr, li, rfl⟩
        have vv := stp_ok hG hC sp
        have v1 := vv.1.1
        exact ih (i + 1) (e + 1) h' t1 _ (by omega) (by omega) ((kk 0 (by decide)).trans hx) s1 c1 c2 vv.1 vv.2 (by omega) (by omega) (fun h'' e' t' G' x a1 a2 a3 a4 a5 a6 a7 a8 a9 => K h'' e' t' G' x (Or.inr ⟨E, P, k, t1, _, hB, hF, sp, a1⟩) (kp_tr kk a2) a3 a4 a5 a6 a7 (by omega) (by omega))
      · -- k0
        refine ma_rif_ne 38 dX11_simpler_32 rfl (by decide) (fun c32 => absurd c32 (by decide)) (fun c32 => ?_)
        refine ma_goto 47 dX11_simpler_35 rfl ?_
        exact K h' e t G i (Or.inl ⟨E, P, hB, hF, rfl, rfl, rfl⟩) kk s1 c1 c2 hG hC (by omega) (by omega)
theorem l_sp62 {g : ma_H} {d : Nat} {q0 e t sz x : Int} {TT : Int → Int} {r4 : ma_V} {Q : Option ma_V → ma_H → Nat → Prop} (g0 : g 0 = co 11 (xo q0)) (g1 : g 1 = co 8 [vi t, r4]) (eb : 0 ≤ e ∧ e ≤ 8) (K : Q (some (vi t)) (tq g 1 (uf TT 0 e)) 1000000) : ma_J none mX11_simpler (d + 6) 0 0 62 [some (vr 0), some (vi e), some (vi x)] [] (tq g sz TT) 1000000 Q := by
  refine ma_aload_n dX11_simpler_62 rfl ?_
  refine ma_getf dX11_simpler_63 fX11_40 (by first | exact tq_31 | exact (tq_n (by decide) (by decide)).trans g0 | exact (tq_n (by decide) (by decide)).trans g1) (by rfl) ?_
  refine ma_cV [] dX11_simpler_66 wX9_clear lX11_141 iX9_clear sX9_clear rfl (by first | exact tq_31 | exact (tq_n (by decide) (by decide)).trans g0 | exact (tq_n (by decide) (by decide)).trans g1) (Nat.le_of_ble_eq_true rfl) ?_
  refine q_clear ?_
  refine ma_aload_n dX11_simpler_69 rfl ?_
  refine ma_getf dX11_simpler_70 fX11_40 (by first | exact tq_31 | exact (tq_n (by decide) (by decide)).trans g0 | exact (tq_n (by decide) (by decide)).trans g1) (by rfl) ?_
  refine ma_iload_n dX11_simpler_73 rfl ?_
  refine ma_i2l dX11_simpler_74 ?_
  refine ma_cV [_] dX11_simpler_75 wX9_add lX11_144 iX9_add sX9_add rfl (by first | exact tq_31 | exact (tq_n (by decide) (by decide)).trans g0 | exact (tq_n (by decide) (by decide)).trans g1) (Nat.le_of_ble_eq_true rfl) ?_
  refine q_add (by decide) (iw_of (by omega) (by omega)) ?_
  refine ma_aload_n dX11_simpler_78 rfl ?_
  refine ma_getf dX11_simpler_79 fX11_10 (by first | exact tq_31 | exact (tq_n (by decide) (by decide)).trans g0 | exact (tq_n (by decide) (by decide)).trans g1) (by rfl) ?_
  refine ma_getf dX11_simpler_82 fX11_123 (by first | exact tq_31 | exact (tq_n (by decide) (by decide)).trans g0 | exact (tq_n (by decide) (by decide)).trans g1) (by rfl) ?_
  exact ma_iret dX11_simpler_85 rfl K
set_option maxHeartbeats 2000000 in
theorem c_X11_simpler {h : ma_H} {y z d : Nat} {t u0 q0 ps pn tt sz : Int} {G F0 GG TT : Int → Int} {O : Int → Option Nat} {Q : Option ma_V → ma_H → Nat → Prop} (hx : h 0 = co 11 (xo q0)) (hS : SC h) (h1 : h 1 = co 8 [vi t, vr 2]) (h2 : h 2 = ci 32 G) (h3 : h 3 = co 8 [vi u0, vr 4]) (h4 : h 4 = ci 32 F0) (h31 : h 31 = co 9 [vi sz, vr 32]) (h32 : h 32 = cl 65 TT) (hG : VG t G) (hC : CN t G) (hp : h 13 = co 3 [vi ps, vi pn, vr 14]) (hw : h 14 = cq 8 O) (hpn : 0 ≤ pn ∧ pn < 8) (hps : 0 ≤ ps ∧ ps ≤ 8) (hO : O pn = some y) (hy : h y = co 8 [vi tt, vr z]) (hz : h z = ci 32 GG) (ry : 15 ≤ y ∧ y ≤ 30) (rz : 15 ≤ z ∧ z ≤ 30) (yz : y ≠ z) (K0 : ∀ h' e' t' G', SIM 8 t G 0 t' G' e' → e' ≤ 0 → kp h h' (1 :: 2 :: 3 :: 4 :: scl) → SC h' → h' 1 = co 8 [vi t', vr 2] → h' 2 = ci 32 G' → Q (some (vi t')) (tq h' 1 (uf TT 0 e')) 1000000) (K1 : ∀ h' e' t' G', SIM 8 t G 0 t' G' e' → 0 < e' → kp h h' (13 :: y :: z :: 1 :: 2 :: 3 :: 4 :: scl) → SC h' → h' 1 = co 8 [vi t', vr 2] → h' 2 = ci 32 G' → h' 13 = co 3 [vi (if 8 < ps + 1 then 8 else ps + 1), vi ((pn + 1) % 8), vr 14] → h' y = co 8 [vi t, vr z] → h' z = ci 32 G → Q (some (vi t')) (tq h' 1 (uf TT 0 e')) 1000000) : ma_Ct mX11_simpler (d + 6) 0 0 [vr 0] h 1000000 Q := by
  have ht := hG.1
  refine ma_Ct.of (by decide +kernel) (Nat.le_of_ble_eq_true rfl) ?_
  refine ma_aload_n dX11_simpler_0 rfl ?_
  refine ma_getf dX11_simpler_1 fX11_16 (by first | exact hx | exact h1 | exact h3) (by rfl) ?_
  refine ma_aload_n dX11_simpler_4 rfl ?_
  refine ma_getf dX11_simpler_5 fX11_10 (by first | exact hx | exact h1 | exact h3) (by rfl) ?_
  refine ma_cV [_] dX11_simpler_8 wX8_copy lX11_120 iX8_copy sX8_copy rfl (by first | exact hx | exact h1 | exact h3) (Nat.le_of_ble_eq_true rfl) ?_
  refine c_X8_copy h3 h4 h1 h2 (by decide) (by decide) (by decide) ?_
  refine ma_iconst dX11_simpler_11 ?_
  refine ma_istore_nN dX11_simpler_12 (by decide) rfl ?_
  refine ma_iconst dX11_simpler_13 ?_
  refine ma_istore_nN dX11_simpler_14 (by decide) rfl ?_
  refine l_sp15 8 0 0 _ t G (by decide) (by decide) ((ma_up_n (by decide)).trans ((ma_up_n (by decide)).trans hx)) (sc_up (by decide) (sc_up (by decide) hS)) ((ma_up_n (by decide)).trans ((ma_up_n (by decide)).trans h1)) ((ma_up_n (by decide)).trans ((ma_up_n (by decide)).trans h2)) hG hC (by decide) (by omega) (fun h' e' t' G' x a1 a2 a3 a4 a5 a6 a7 a8 a9 => ?_)
  have kkT : kp h h' (1 :: 2 :: 3 :: 4 :: scl) := kp_tr (kp_up (by simp) (kp_up (by simp) (kp_rf _ _))) (kp_mo (by simp) a2)
  have e0 : h' 0 = co 11 (xo q0) := (kkT 0 (by decide)).trans hx
  have e31 : h' 31 = co 9 [vi sz, vr 32] := (kkT 31 (by decide)).trans h31
  have e32 : h' 32 = cl 65 TT := (kkT 32 (by decide)).trans h32
  have e3 : h' 3 = co 8 [vi t, vr 4] := (a2 3 (by decide)).trans ((ma_up_n (by decide)).trans (ma_up_s _ _ _))
  have e4 : h' 4 = ci 32 G := (a2 4 (by decide)).trans (ma_up_s _ _ _)
  refine ma_iload_n dX11_simpler_47 rfl ?_
  refine ma_rif_le 62 dX11_simpler_48 rfl (by constructor <;> omega) (fun c48 => ?_) (fun c48 => ?_)
  · -- 62
    rw [tq_of e31 e32]
    exact l_sp62 e0 a4 (by omega) (K0 h' e' t' G' a1 (by omega) kkT a3 a4 a5)
  · -- 51
    refine ma_aload_n dX11_simpler_51 rfl ?_
    refine ma_getf dX11_simpler_52 fX11_33 (by first | exact e0 | exact e3 | exact (kkT 13 (by decide)).trans hp) (by rfl) ?_
    refine ma_aload_n dX11_simpler_55 rfl ?_
    refine ma_getf dX11_simpler_56 fX11_16 (by first | exact e0 | exact e3 | exact (kkT 13 (by decide)).trans hp) (by rfl) ?_
    refine ma_cV [_] dX11_simpler_59 wX3_push lX11_113 iX3_push sX3_push rfl (by first | exact e0 | exact e3 | exact (kkT 13 (by decide)).trans hp) (Nat.le_of_ble_eq_true rfl) ?_
    refine c_X3_push ((kkT 13 (by decide)).trans hp) ((kkT 14 (by decide)).trans hw) hpn hps hO ((kkT y (by simp; omega)).trans hy) ((kkT z (by simp; omega)).trans hz) e3 e4 yz (by omega) (by omega) (by omega) (by omega) ?_
    rw [tq_of (h := (ma_up (ma_up (ma_up h' y (co 8 [vi t, vr z])) z (ci 32 G)) 13 (co 3 [vi (if 8 < ps + 1 then 8 else ps + 1), vi ((pn + 1) % 8), vr 14]))) ((ma_up_n (by decide)).trans ((ma_up_n (by omega)).trans ((ma_up_n (by omega)).trans e31))) ((ma_up_n (by decide)).trans ((ma_up_n (by omega)).trans ((ma_up_n (by omega)).trans e32)))]
    exact l_sp62 ((ma_up_n (by decide)).trans ((ma_up_n (by omega)).trans ((ma_up_n (by omega)).trans e0))) ((ma_up_n (by decide)).trans ((ma_up_n (by omega)).trans ((ma_up_n (by omega)).trans a4))) (by omega) (K1 (ma_up (ma_up (ma_up h' y (co 8 [vi t, vr z])) z (ci 32 G)) 13 (co 3 [vi (if 8 < ps + 1 then 8 else ps + 1), vi ((pn + 1) % 8), vr 14])) e' t' G' a1 (by omega) (kp_up (by simp) (kp_up (by simp) (kp_up (by simp) (kp_mo (fun x hx => by simp at hx ⊢; omega) kkT)))) (sc_up (by decide) (sc_up (by omega) (sc_up (by omega) a3))) ((ma_up_n (by decide)).trans ((ma_up_n (by omega)).trans ((ma_up_n (by omega)).trans a4))) ((ma_up_n (by decide)).trans ((ma_up_n (by omega)).trans ((ma_up_n (by omega)).trans a5))) (ma_up_s _ _ _) ((ma_up_n (by omega)).trans ((ma_up_n (by omega)).trans (ma_up_s _ _ _))) ((ma_up_n (by omega)).trans (ma_up_s _ _ _)))
