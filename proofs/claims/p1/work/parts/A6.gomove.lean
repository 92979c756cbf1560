theorem mp_rf {h : ma_H} {b : Nat} {I : Nat → Int} (hM : h 73 = co 12 (mo I)) (hS : SMO h) : MP h h b I I := ⟨kp_rf _ _, hM, ki_rf _, hS⟩
theorem mp_tr {h h' h'' : ma_H} {b : Nat} {I I' I'' : Nat → Int} (a : MP h h' b I I') (c : MP h' h'' b I' I'') : MP h h'' b I I'' := ⟨kp_tr a.1 c.1, c.2.1, ki_tr a.2.2.1 c.2.2.1, c.2.2.2⟩
/-- number, told by what stands behind it -/
theorem m_number {h : ma_H} {b nx d : Nat} {t : Int} {G Aa : Int → Int} {Q : Option ma_V → ma_H → Nat → Prop} {I : Nat → Int} (hM : h 73 = co 12 (mo I)) (hS : SMO h) (hb : h b = ci 33 Aa) (nb : mlen b = 0 ∧ b ≠ 77 ∧ b ≠ 73) (nb2 : 84 < b ∨ b = 74) (hG : VG t G) (hC : CN t G) (hA : AG t G Aa) (K : ∀ h' I' L La ties, MP h h' b I I' → h' b = ci 33 La → I' 12 = ties → LI t G L (24 * t) ties → AG t L La → (∀ j, 4 * t ≤ j → L j = -1) → Q (some (vi 1)) h' nx) : ma_Ct mX12_number (d + 3) 0 0 [vr 73, vr b] h nx Q := by
  obtain ⟨f78, e78⟩ : ∃ f, h 78 = ci 8 f := hS.1 78 (by decide)
  obtain ⟨f79, e79⟩ : ∃ f, h 79 = ci 32 f := hS.1 79 (by decide)
  obtain ⟨f80, e80⟩ : ∃ f, h 80 = ci 8 f := hS.1 80 (by decide)
  obtain ⟨f81, e81⟩ : ∃ f, h 81 = ci 33 f := hS.1 81 (by decide)
  obtain ⟨f82, e82⟩ : ∃ f, h 82 = ci 33 f := hS.1 82 (by decide)
  obtain ⟨f83, e83⟩ : ∃ f, h 83 = ci 32 f := hS.1 83 (by decide)
  obtain ⟨f84, e84⟩ : ∃ f, h 84 = ci 4 f := hS.1 84 (by decide)
  obtain ⟨pf, e77, hpf⟩ := hS.2
  have nbk := nb_k nb
  rw [gh_of e78 e79 e80 e81 e83 e84]
  refine c_X12_number hG hC e77 hpf hb nb2 hA hM e82 (fun L La ties N M O R C V hL hAL hn => ?_)
  have n73 : ∀ k, k < 78 ∨ 84 < k ∨ k = 82 → gh (ma_up (ma_up (ma_up h 73 (co 12 (mo (iu I 12 ties)))) 82 (ci 33 La)) b (ci 33 La)) N M O R C V k = (ma_up (ma_up (ma_up h 73 (co 12 (mo (iu I 12 ties)))) 82 (ci 33 La)) b (ci 33 La)) k := fun k hk => gh_n hk
  refine K _ (iu I 12 ties) L La ties ⟨?_, ?_, ki_u (ki_rf _) (by decide), ?_⟩ ?_ (iu_s _ _ _) hL hAL hn
  · unfold gh
    repeat (first | exact kp_rf _ _ | assumption | refine kp_up (by simp) ?_)
  · rw [n73 73 (by decide), ma_up_n (Ne.symm (nbk 73 (by decide))), ma_up_n (by decide), ma_up_s]
  · unfold gh
    repeat (first | assumption | refine smo_n (by first | decide | exact nb.1) (by first | decide | exact nb.2.1) ?_ | refine smo_a rfl (by decide) ?_)
  · rw [n73 b (by omega), ma_up_s]
/-- one move and its least numbering -/
def STP (t : Int) (G : Int → Int) (k t1 : Int) (G1 : Int → Int) : Prop := t1 = t + gr k ∧ ∃ C L ties, MR t G k t1 C ∧ LI t1 C L (24 * t1) ties ∧ G1 = stl t1 C L
theorem stp_ag {t1 : Int} {C C' Lc L La G1 m r sg : Int → Int} {a b : Int} (hG : VG t1 C) (hC : CN t1 C) (hI : IS t1 C C' m r sg) (hE : ∀ k, 4 * t1 ≤ k → C' k = -1) (h1 : LI t1 C Lc (24 * t1) a) (h2 : LI t1 C' L (24 * t1) b) (hn : ∀ j, 4 * t1 ≤ j → L j = -1) (hA : AG t1 L La) (hg : G1 = stl t1 C Lc) : AG t1 G1 La := by
  have e := is_least hG hC hI (fun k k0 _ => hE k k0) h1 h2
  refine ⟨hA.1, fun j j0 j1 => ?_⟩
  rw [hA.2 j j0 j1, hg]
  rcases Int.lt_or_le j (4 * t1) with z | z
  · rw [stl_in j0 z, e j j0 z]
  · rw [stl_out z, hn j z, hG.2.2 j z j1]
theorem rf_two {t : Int} {G E P : Int → Int} {x f : Int} (ht : 1 ≤ t ∧ t ≤ 8) (x0 : 0 ≤ x ∧ x < t) (f0 : 0 ≤ f ∧ f < 4) : RF t G E P (4 * x + f) = if G (4 * x + f) < 0 ∨ G (4 * x + f) / 32 = x then -2 else if t = 8 then -3 else 0 := by
  unfold RF R2
  rw [if_pos (by omega), show (4 * x + f) / 4 = x by omega, if_neg (by omega)]
  split
  · rfl
  · by_cases z : t = 8
    · rw [if_pos (by omega), if_pos z]
    · rw [if_neg (by omega), if_neg z]
theorem rf_one {t : Int} {G E P : Int → Int} {x : Int} (ht : 1 ≤ t ∧ t ≤ 8) (x0 : 0 ≤ x ∧ x < t) : RF t G E P (160 + x) = if 8 < t + 3 then -3 else 0 := by
  unfold RF R1
  rw [if_neg (by omega), if_neg (by omega), if_pos (by omega), show 160 + x - 160 = x by omega, if_neg (by omega)]
theorem rf_three {t : Int} {G E P : Int → Int} {k : Int} (ht : 1 ≤ t ∧ t ≤ 8) (hk : oE t k) : RF t G E P (32 + lw k) = @ite _ (C3 t G E k) (Classical.propDecidable _) 0 (-2) := by
  obtain ⟨l1, l2, l3, l4, l5, l6⟩ := lw_ok (E := E) hk
  unfold RF
  rw [if_neg (by omega), if_pos (by omega), show 32 + lw k - 32 = lw k by omega, if_neg (fun z => z ⟨by omega, l3⟩)]
  by_cases z : C3 t G E k
  · rw [if_pos z, if_pos (C3_lw.mpr z)]
  · rw [if_neg z, if_neg (fun w => z (C3_lw.mp w))]
theorem rf_four {t : Int} {G E P : Int → Int} {k : Int} (ht : 1 ≤ t ∧ t ≤ 8) (hk : oC t k) : RF t G E P (168 + k) = @ite _ (C4 t G E P k) (Classical.propDecidable _) 0 (-2) := by
  obtain ⟨k0, k1⟩ := hk
  unfold RF
  rw [if_neg (by omega), if_neg (by omega), if_neg (by omega), show 168 + k - 168 = k by omega, if_neg (by omega)]
theorem gr_v : (∀ k, 0 ≤ k → k < 32 → gr k = 1) ∧ (∀ k, 32 ≤ k → k < 160 → gr k = -1) ∧ (∀ k, 160 ≤ k → k < 168 → gr k = 3) ∧ ∀ k, 168 ≤ k → gr k = -3 := by
  refine ⟨fun k a b => ?_, fun k a b => ?_, fun k a b => ?_, fun k a => ?_⟩ <;> unfold gr
  · rw [if_pos (by omega), if_pos (by omega)]
  · rw [if_pos (by omega), if_neg (by omega)]
  · rw [if_neg (by omega), if_pos (by omega)]
  · rw [if_neg (by omega), if_neg (by omega)]
set_option maxHeartbeats 2000000 in
theorem c_X12_goMove {h : ma_H} {b nx d : Nat} {t sort x y z t1 : Int} {G Aa G1 : Int → Int} {Q : Option ma_V → ma_H → Nat → Prop} {I : Nat → Int} (hM : h 73 = co 12 (mo I)) (hS : SMO h) (hb : h b = ci 33 Aa) (nb : mlen b = 0 ∧ b ≠ 77 ∧ b ≠ 73) (nb2 : 84 < b ∨ b = 74) (hG : VG t G) (hC : CN t G) (hA : AG t G Aa) (hs : 0 ≤ sort ∧ sort < 4) (rx : rg x) (ry : rg y) (rz : rg z) (hst : 0 ≤ (plc t sort x y z) → (∃ E P, (sort = 1 ∨ sort = 3 → BP t G E P) ∧ RF t G E P (plc t sort x y z) = 0) → STP t G (plc t sort x y z) t1 G1) (K1 : (plc t sort x y z) < 0 → Q (some (vi (-1))) h nx) (K2 : 0 ≤ (plc t sort x y z) → ∀ E P, (sort = 1 ∨ sort = 3 → BP t G E P) → RF t G E P (plc t sort x y z) < 0 → ∀ h' I', MP h h' b I I' → h' b = ci 33 Aa → Q (some (vi (RF t G E P (plc t sort x y z)))) h' nx) (K3 : 0 ≤ (plc t sort x y z) → (∃ E P, (sort = 1 ∨ sort = 3 → BP t G E P) ∧ RF t G E P (plc t sort x y z) = 0) → ∀ h' I' A', MP h h' b I I' → h' b = ci 33 A' → AG t1 G1 A' → Q (some (vi 0)) h' nx) : ma_Ct mX12_goMove (d + 6) 0 0 [vr 73, vr b, vi sort, vi x, vi y, vi z] h nx Q := by
  have ht := hG.1
  refine ma_Ct.of (by decide +kernel) (Nat.le_of_ble_eq_true rfl) ?_
  rcases four_of hs.1 hs.2 with z0 | z0 | z0 | z0
  · -- two
    subst z0
    have ep : (0 ≤ x ∧ x < t ∧ 0 ≤ y ∧ y < 4) → plc t 0 x y z = 4 * x + y := fun h => by unfold plc; rw [if_neg (by omega), if_neg (by decide), if_neg (by decide), if_neg (by omega), if_pos rfl]; omega
    have en : ¬ (0 ≤ x ∧ x < t ∧ 0 ≤ y ∧ y < 4) → plc t 0 x y z = -1 := fun h => by
      unfold plc
      by_cases w : 0 ≤ x ∧ x < t
      · rw [if_neg (fun q => q w), if_neg (by decide), if_neg (by decide), if_pos (by omega)]
      · rw [if_pos w]
    have hr : (0 ≤ x ∧ x < t ∧ 0 ≤ y ∧ y < 4) → 0 ≤ G (4 * x + y) → G (4 * x + y) / 32 ≠ x → t ≤ 7 → STP t G (4 * x + y) t1 G1 := fun a b c e => by
      have q := hst (by rw [ep a]; omega) ⟨G, G, fun w => by omega, by rw [ep a, rf_two ht (by omega) (by omega), if_neg (by omega), if_neg (by omega)]⟩
      rw [ep a] at q
      exact q
    obtain ⟨C, Lc, tc, hst2⟩ : ∃ C Lc tc, ((0 ≤ x ∧ x < t ∧ 0 ≤ y ∧ y < 4) → 0 ≤ G (4 * x + y) → G (4 * x + y) / 32 ≠ x → t ≤ 7 → t1 = t + 1 ∧ MR t G (4 * x + y) (t + 1) C ∧ LI (t + 1) C Lc (24 * (t + 1)) tc ∧ G1 = stl (t + 1) C Lc) := by
      by_cases w : (0 ≤ x ∧ x < t ∧ 0 ≤ y ∧ y < 4) ∧ 0 ≤ G (4 * x + y) ∧ G (4 * x + y) / 32 ≠ x ∧ t ≤ 7
      · obtain ⟨e1, C, L, tc, m1, m2, m3⟩ := hr w.1 w.2.1 w.2.2.1 w.2.2.2
        rw [gr_v.1 _ (by omega) (by omega)] at e1
        subst e1
        exact ⟨C, L, tc, fun _ _ _ _ => ⟨rfl, m1, m2, m3⟩⟩
      · exact ⟨G, G, 0, fun a b c e => absurd ⟨a, b, c, e⟩ w⟩
    refine ma_iload_n dX12_goMove_0 rfl ?_
    refine ma_rif_ne 15 dX12_goMove_1 rfl (by decide) (fun c1 => absurd c1 (by decide)) (fun c1 => ?_)
    refine ma_aload_n dX12_goMove_4 rfl ?_
    refine ma_aload_n dX12_goMove_5 rfl ?_
    refine ma_iload_n dX12_goMove_6 rfl ?_
    refine ma_iload dX12_goMove_7 rfl ?_
    refine ma_cV [_, _, _] dX12_goMove_9 wX12_goTwo lX12_425 iX12_goTwo sX12_goTwo rfl (by assumption) (Nat.le_of_ble_eq_true rfl) ?_
    refine c_X12_goTwo hM hS hb nb hG hA rx ry (fun a b c e => (hst2 a b c e).2.1) (fun n => ?_) (fun a b => ?_) (fun a b c e => ?_) (fun a b c e h' I' TH C' q1 q4 q5 ⟨m, r, sg, hIS⟩ q7 => ?_)
    · -- none
      refine ma_goto 55 dX12_goMove_12 rfl ?_
      refine ma_istoreN dX12_goMove_55 (by decide) rfl ?_
      refine ma_iload dX12_goMove_57 rfl ?_
      refine ma_rif_ne 68 dX12_goMove_59 rfl (by decide) (fun c59 => ?_) (fun c59 => absurd c59 (by decide))
      refine ma_iload dX12_goMove_68 rfl ?_
      exact ma_iret dX12_goMove_70 rfl (K1 (by rw [en n]; decide))
    · -- cannot
      have k2 := K2 (by rw [ep a]; omega) G G (fun w => by omega) (by rw [ep a, rf_two ht (by omega) (by omega), if_pos b]; decide) h I (mp_rf hM hS) hb
      rw [ep a, rf_two ht (by omega) (by omega), if_pos b] at k2
      refine ma_goto 55 dX12_goMove_12 rfl ?_
      refine ma_istoreN dX12_goMove_55 (by decide) rfl ?_
      refine ma_iload dX12_goMove_57 rfl ?_
      refine ma_rif_ne 68 dX12_goMove_59 rfl (by decide) (fun c59 => ?_) (fun c59 => absurd c59 (by decide))
      refine ma_iload dX12_goMove_68 rfl ?_
      exact ma_iret dX12_goMove_70 rfl k2
    · -- too many
      have k2 := K2 (by rw [ep a]; omega) G G (fun w => by omega) (by rw [ep a, rf_two ht (by omega) (by omega), if_neg (by omega), if_pos e]; decide) h I (mp_rf hM hS) hb
      rw [ep a, rf_two ht (by omega) (by omega), if_neg (by omega), if_pos e] at k2
      refine ma_goto 55 dX12_goMove_12 rfl ?_
      refine ma_istoreN dX12_goMove_55 (by decide) rfl ?_
      refine ma_iload dX12_goMove_57 rfl ?_
      refine ma_rif_ne 68 dX12_goMove_59 rfl (by decide) (fun c59 => ?_) (fun c59 => absurd c59 (by decide))
      refine ma_iload dX12_goMove_68 rfl ?_
      exact ma_iret dX12_goMove_70 rfl k2
    · -- done
      obtain ⟨e1, mr, hL, hG1⟩ := hst2 a b c e
      subst e1
      have vC := mr_ok hG hC mr
      have q2 := q1.2.1
      have q3 := q1.2.2.2
      have hk0 : 0 ≤ plc t 0 x y z := by rw [ep a]; omega
      have hex : ∃ E P, ((0 : Int) = 1 ∨ (0 : Int) = 3 → BP t G E P) ∧ RF t G E P (plc t 0 x y z) = 0 := ⟨G, G, fun w => by omega, by rw [ep a, rf_two ht (by omega) (by omega), if_neg (by omega), if_neg (by omega)]⟩
      refine ma_goto 55 dX12_goMove_12 rfl ?_
      refine ma_istoreN dX12_goMove_55 (by decide) rfl ?_
      refine ma_iload dX12_goMove_57 rfl ?_
      refine ma_rif_ne 68 dX12_goMove_59 rfl (by decide) (fun c59 => absurd c59 (by decide)) (fun c59 => ?_)
      refine ma_aload_n dX12_goMove_62 rfl ?_
      refine ma_aload_n dX12_goMove_63 rfl ?_
      refine ma_cV [_] dX12_goMove_64 wX12_number lX12_221 iX12_number sX12_number rfl (by first | assumption | exact q2) (Nat.le_of_ble_eq_true rfl) ?_
      refine m_number q2 q3 q4 nb nb2 (is_vg vC.1 hIS (fun k k0 _ => q7 k k0)) (is_cn vC.1 vC.2 hIS) q5 (fun h'' I'' L2 La ties2 p1 p2 p3 p4 p5 p6 => ?_)
      refine ma_pop dX12_goMove_67 rfl ?_
      refine ma_iload dX12_goMove_68 rfl ?_
      exact ma_iret dX12_goMove_70 rfl (K3 hk0 hex h'' I'' La (mp_tr q1 p1) p2 (stp_ag vC.1 vC.2 hIS q7 hL p4 p6 p5 hG1))
  · -- three
    subst z0
    have ep : (0 ≤ x ∧ x < t ∧ 0 ≤ y ∧ y < 4 ∧ 0 ≤ z ∧ z < 4 ∧ y ≠ z) → plc t 1 x y z = 32 + lw (16 * x + 4 * y + z) := fun h => by
      rw [lw_m ⟨h.2.2.1, h.2.2.2.1⟩ ⟨h.2.2.2.2.1, h.2.2.2.2.2.1⟩ h.2.2.2.2.2.2]
      unfold plc
      rw [if_neg (fun q => q ⟨h.1, h.2.1⟩), if_neg (by decide), if_pos rfl, if_neg (fun q => q h.2.2)]
      omega
    have en : ¬ (0 ≤ x ∧ x < t ∧ 0 ≤ y ∧ y < 4 ∧ 0 ≤ z ∧ z < 4 ∧ y ≠ z) → plc t 1 x y z = -1 := fun h => by
      unfold plc
      by_cases w : 0 ≤ x ∧ x < t
      · rw [if_neg (fun q => q w), if_neg (by decide), if_pos rfl, if_pos (fun q => h ⟨w.1, w.2, q⟩)]
      · rw [if_pos w]
    have ok : (0 ≤ x ∧ x < t ∧ 0 ≤ y ∧ y < 4 ∧ 0 ≤ z ∧ z < 4 ∧ y ≠ z) → oE t (16 * x + 4 * y + z) := fun h => by
      obtain ⟨e4, e5, e6, e7⟩ := dgk (tt := x) (u := y) (v := z) ⟨h.2.2.1, h.2.2.2.1⟩ ⟨h.2.2.2.2.1, h.2.2.2.2.2.1⟩
      exact ⟨by omega, by omega, by rw [e7, e5]; exact h.2.2.2.2.2.2⟩
    have pb : (0 ≤ x ∧ x < t ∧ 0 ≤ y ∧ y < 4 ∧ 0 ≤ z ∧ z < 4 ∧ y ≠ z) → 32 ≤ 32 + lw (16 * x + 4 * y + z) ∧ 32 + lw (16 * x + 4 * y + z) < 160 := fun h => by
      have q := lw_ok (E := G) (ok h)
      omega
    obtain ⟨C, Lc, tc, hst2⟩ : ∃ C Lc tc, ((0 ≤ x ∧ x < t ∧ 0 ≤ y ∧ y < 4 ∧ 0 ≤ z ∧ z < 4 ∧ y ≠ z) → (∃ E P, BP t G E P ∧ C3 t G E (16 * x + 4 * y + z)) → t1 = t - 1 ∧ MR t G (32 + lw (16 * x + 4 * y + z)) (t - 1) C ∧ LI (t - 1) C Lc (24 * (t - 1)) tc ∧ G1 = stl (t - 1) C Lc) := by
      by_cases w : (0 ≤ x ∧ x < t ∧ 0 ≤ y ∧ y < 4 ∧ 0 ≤ z ∧ z < 4 ∧ y ≠ z) ∧ ∃ E P, BP t G E P ∧ C3 t G E (16 * x + 4 * y + z)
      · obtain ⟨w1, E, P, w2, w3⟩ := w
        have q := hst (by rw [ep w1]; have := pb w1; omega) ⟨E, P, fun _ => w2, by rw [ep w1, rf_three ht (ok w1), if_pos w3]⟩
        rw [ep w1] at q
        obtain ⟨e1, C, L, tc, m1, m2, m3⟩ := q
        rw [gr_v.2.1 _ (pb w1).1 (pb w1).2] at e1
        have e2 : t1 = t - 1 := by omega
        subst e2
        exact ⟨C, L, tc, fun _ _ => ⟨rfl, m1, m2, m3⟩⟩
      · exact ⟨G, G, 0, fun a b => absurd ⟨a, b⟩ w⟩
    refine ma_iload_n dX12_goMove_0 rfl ?_
    refine ma_rif_ne 15 dX12_goMove_1 rfl (by decide) (fun c1 => ?_) (fun c1 => absurd c1 (by decide))
    refine ma_iload_n dX12_goMove_15 rfl ?_
    refine ma_iconst dX12_goMove_16 ?_
    refine ma_rcmp_ne 33 dX12_goMove_17 rfl (by decide) (by decide) (fun c17 => absurd c17 (by decide)) (fun c17 => ?_)
    refine ma_aload_n dX12_goMove_20 rfl ?_
    refine ma_aload_n dX12_goMove_21 rfl ?_
    refine ma_iload_n dX12_goMove_22 rfl ?_
    refine ma_iload dX12_goMove_23 rfl ?_
    refine ma_iload dX12_goMove_25 rfl ?_
    refine ma_cV [_, _, _, _] dX12_goMove_27 wX12_goThree lX12_428 iX12_goThree sX12_goThree rfl (by assumption) (Nat.le_of_ble_eq_true rfl) ?_
    refine c_X12_goThree hM hS hb nb hG hA rx ry rz (fun a E P b c => (hst2 a ⟨E, P, b, c⟩).2.1) (fun n => ?_) (fun a E P b c h' I' q1 q2 => ?_) (fun a E P b c h' I' TH C' q1 q4 q5 ⟨m, r, sg, hIS⟩ q7 => ?_)
    · -- none
      refine ma_goto 55 dX12_goMove_30 rfl ?_
      refine ma_istoreN dX12_goMove_55 (by decide) rfl ?_
      refine ma_iload dX12_goMove_57 rfl ?_
      refine ma_rif_ne 68 dX12_goMove_59 rfl (by decide) (fun c59 => ?_) (fun c59 => absurd c59 (by decide))
      refine ma_iload dX12_goMove_68 rfl ?_
      exact ma_iret dX12_goMove_70 rfl (K1 (by rw [en n]; decide))
    · -- cannot
      have k2 := K2 (by rw [ep a]; have := pb a; omega) E P (fun _ => b) (by rw [ep a, rf_three ht (ok a), if_neg c]; decide) h' I' q1 q2
      rw [ep a, rf_three ht (ok a), if_neg c] at k2
      refine ma_goto 55 dX12_goMove_30 rfl ?_
      refine ma_istoreN dX12_goMove_55 (by decide) rfl ?_
      refine ma_iload dX12_goMove_57 rfl ?_
      refine ma_rif_ne 68 dX12_goMove_59 rfl (by decide) (fun c59 => ?_) (fun c59 => absurd c59 (by decide))
      refine ma_iload dX12_goMove_68 rfl ?_
      exact ma_iret dX12_goMove_70 rfl k2
    · -- done
      obtain ⟨e1, mr, hL, hG1⟩ := hst2 a ⟨E, P, b, c⟩
      subst e1
      have vC := mr_ok hG hC mr
      have q2 := q1.2.1
      have q3 := q1.2.2.2
      have hk0 : 0 ≤ plc t 1 x y z := by rw [ep a]; have := pb a; omega
      have hex : ∃ E P, ((1 : Int) = 1 ∨ (1 : Int) = 3 → BP t G E P) ∧ RF t G E P (plc t 1 x y z) = 0 := ⟨E, P, fun _ => b, by rw [ep a, rf_three ht (ok a), if_pos c]⟩
      refine ma_goto 55 dX12_goMove_30 rfl ?_
      refine ma_istoreN dX12_goMove_55 (by decide) rfl ?_
      refine ma_iload dX12_goMove_57 rfl ?_
      refine ma_rif_ne 68 dX12_goMove_59 rfl (by decide) (fun c59 => absurd c59 (by decide)) (fun c59 => ?_)
      refine ma_aload_n dX12_goMove_62 rfl ?_
      refine ma_aload_n dX12_goMove_63 rfl ?_
      refine ma_cV [_] dX12_goMove_64 wX12_number lX12_221 iX12_number sX12_number rfl (by first | assumption | exact q2) (Nat.le_of_ble_eq_true rfl) ?_
      refine m_number q2 q3 q4 nb nb2 (is_vg vC.1 hIS (fun k k0 _ => q7 k k0)) (is_cn vC.1 vC.2 hIS) q5 (fun h'' I'' L2 La ties2 p1 p2 p3 p4 p5 p6 => ?_)
      refine ma_pop dX12_goMove_67 rfl ?_
      refine ma_iload dX12_goMove_68 rfl ?_
      exact ma_iret dX12_goMove_70 rfl (K3 hk0 hex h'' I'' La (mp_tr q1 p1) p2 (stp_ag vC.1 vC.2 hIS q7 hL p4 p6 p5 hG1))
  · -- one
    subst z0
    have ep : (0 ≤ x ∧ x < t) → plc t 2 x y z = 160 + x := fun h => by unfold plc; rw [if_neg (by omega), if_pos rfl]
    have en : ¬ (0 ≤ x ∧ x < t) → plc t 2 x y z = -1 := fun h => by unfold plc; rw [if_pos h]
    obtain ⟨C, Lc, tc, hst2⟩ : ∃ C Lc tc, ((0 ≤ x ∧ x < t) → t + 3 ≤ 8 → t1 = t + 3 ∧ MR t G (160 + x) (t + 3) C ∧ LI (t + 3) C Lc (24 * (t + 3)) tc ∧ G1 = stl (t + 3) C Lc) := by
      by_cases w : (0 ≤ x ∧ x < t) ∧ t + 3 ≤ 8
      · have q := hst (by rw [ep w.1]; omega) ⟨G, G, fun w => by omega, by rw [ep w.1, rf_one ht w.1, if_neg (by omega)]⟩
        rw [ep w.1] at q
        obtain ⟨e1, C, L, tc, m1, m2, m3⟩ := q
        rw [gr_v.2.2.1 _ (by omega) (by omega)] at e1
        subst e1
        exact ⟨C, L, tc, fun _ _ => ⟨rfl, m1, m2, m3⟩⟩
      · exact ⟨G, G, 0, fun a b => absurd ⟨a, b⟩ w⟩
    refine ma_iload_n dX12_goMove_0 rfl ?_
    refine ma_rif_ne 15 dX12_goMove_1 rfl (by decide) (fun c1 => ?_) (fun c1 => absurd c1 (by decide))
    refine ma_iload_n dX12_goMove_15 rfl ?_
    refine ma_iconst dX12_goMove_16 ?_
    refine ma_rcmp_ne 33 dX12_goMove_17 rfl (by decide) (by decide) (fun c17 => ?_) (fun c17 => absurd c17 (by decide))
    refine ma_iload_n dX12_goMove_33 rfl ?_
    refine ma_iconst dX12_goMove_34 ?_
    refine ma_rcmp_ne 47 dX12_goMove_35 rfl (by decide) (by decide) (fun c35 => absurd c35 (by decide)) (fun c35 => ?_)
    refine ma_aload_n dX12_goMove_38 rfl ?_
    refine ma_aload_n dX12_goMove_39 rfl ?_
    refine ma_iload_n dX12_goMove_40 rfl ?_
    refine ma_cV [_, _] dX12_goMove_41 wX12_goOne lX12_431 iX12_goOne sX12_goOne rfl (by assumption) (Nat.le_of_ble_eq_true rfl) ?_
    refine c_X12_goOne hM hS hb nb hG hA rx (fun a b => (hst2 a b).2.1) (fun n => ?_) (fun a b => ?_) (fun a b h' I' TH C' q1 q4 q5 ⟨m, r, sg, hIS⟩ q7 => ?_)
    · -- none
      refine ma_goto 55 dX12_goMove_44 rfl ?_
      refine ma_istoreN dX12_goMove_55 (by decide) rfl ?_
      refine ma_iload dX12_goMove_57 rfl ?_
      refine ma_rif_ne 68 dX12_goMove_59 rfl (by decide) (fun c59 => ?_) (fun c59 => absurd c59 (by decide))
      refine ma_iload dX12_goMove_68 rfl ?_
      exact ma_iret dX12_goMove_70 rfl (K1 (by rw [en n]; decide))
    · -- too many
      have k2 := K2 (by rw [ep a]; omega) G G (fun w => by omega) (by rw [ep a, rf_one ht a, if_pos b]; decide) h I (mp_rf hM hS) hb
      rw [ep a, rf_one ht a, if_pos b] at k2
      refine ma_goto 55 dX12_goMove_44 rfl ?_
      refine ma_istoreN dX12_goMove_55 (by decide) rfl ?_
      refine ma_iload dX12_goMove_57 rfl ?_
      refine ma_rif_ne 68 dX12_goMove_59 rfl (by decide) (fun c59 => ?_) (fun c59 => absurd c59 (by decide))
      refine ma_iload dX12_goMove_68 rfl ?_
      exact ma_iret dX12_goMove_70 rfl k2
    · -- done
      obtain ⟨e1, mr, hL, hG1⟩ := hst2 a b
      subst e1
      have vC := mr_ok hG hC mr
      have q2 := q1.2.1
      have q3 := q1.2.2.2
      have hk0 : 0 ≤ plc t 2 x y z := by rw [ep a]; omega
      have hex : ∃ E P, ((2 : Int) = 1 ∨ (2 : Int) = 3 → BP t G E P) ∧ RF t G E P (plc t 2 x y z) = 0 := ⟨G, G, fun w => by omega, by rw [ep a, rf_one ht a, if_neg (by omega)]⟩
      refine ma_goto 55 dX12_goMove_44 rfl ?_
      refine ma_istoreN dX12_goMove_55 (by decide) rfl ?_
      refine ma_iload dX12_goMove_57 rfl ?_
      refine ma_rif_ne 68 dX12_goMove_59 rfl (by decide) (fun c59 => absurd c59 (by decide)) (fun c59 => ?_)
      refine ma_aload_n dX12_goMove_62 rfl ?_
      refine ma_aload_n dX12_goMove_63 rfl ?_
      refine ma_cV [_] dX12_goMove_64 wX12_number lX12_221 iX12_number sX12_number rfl (by first | assumption | exact q2) (Nat.le_of_ble_eq_true rfl) ?_
      refine m_number q2 q3 q4 nb nb2 (is_vg vC.1 hIS (fun k k0 _ => q7 k k0)) (is_cn vC.1 vC.2 hIS) q5 (fun h'' I'' L2 La ties2 p1 p2 p3 p4 p5 p6 => ?_)
      refine ma_pop dX12_goMove_67 rfl ?_
      refine ma_iload dX12_goMove_68 rfl ?_
      exact ma_iret dX12_goMove_70 rfl (K3 hk0 hex h'' I'' La (mp_tr q1 p1) p2 (stp_ag vC.1 vC.2 hIS q7 hL p4 p6 p5 hG1))
  · -- four
    subst z0
    have ep : (0 ≤ x ∧ x < t ∧ 0 ≤ y ∧ y < 4) → plc t 3 x y z = 168 + (4 * x + y) := fun h => by unfold plc; rw [if_neg (by omega), if_neg (by decide), if_neg (by decide), if_neg (by omega), if_neg (by decide)]; omega
    have en : ¬ (0 ≤ x ∧ x < t ∧ 0 ≤ y ∧ y < 4) → plc t 3 x y z = -1 := fun h => by
      unfold plc
      by_cases w : 0 ≤ x ∧ x < t
      · rw [if_neg (fun q => q w), if_neg (by decide), if_neg (by decide), if_pos (by omega)]
      · rw [if_pos w]
    have ok : (0 ≤ x ∧ x < t ∧ 0 ≤ y ∧ y < 4) → oC t (4 * x + y) := fun h => ⟨by omega, by omega⟩
    obtain ⟨C, Lc, tc, hst2⟩ : ∃ C Lc tc, ((0 ≤ x ∧ x < t ∧ 0 ≤ y ∧ y < 4) → (∃ E P, BP t G E P ∧ C4 t G E P (4 * x + y)) → t1 = t - 3 ∧ MR t G (168 + (4 * x + y)) (t - 3) C ∧ LI (t - 3) C Lc (24 * (t - 3)) tc ∧ G1 = stl (t - 3) C Lc) := by
      by_cases w : (0 ≤ x ∧ x < t ∧ 0 ≤ y ∧ y < 4) ∧ ∃ E P, BP t G E P ∧ C4 t G E P (4 * x + y)
      · obtain ⟨w1, E, P, w2, w3⟩ := w
        have q := hst (by rw [ep w1]; omega) ⟨E, P, fun _ => w2, by rw [ep w1, rf_four ht (ok w1), if_pos w3]⟩
        rw [ep w1] at q
        obtain ⟨e1, C, L, tc, m1, m2, m3⟩ := q
        rw [gr_v.2.2.2 _ (by omega)] at e1
        have e2 : t1 = t - 3 := by omega
        subst e2
        exact ⟨C, L, tc, fun _ _ => ⟨rfl, m1, m2, m3⟩⟩
      · exact ⟨G, G, 0, fun a b => absurd ⟨a, b⟩ w⟩
    refine ma_iload_n dX12_goMove_0 rfl ?_
    refine ma_rif_ne 15 dX12_goMove_1 rfl (by decide) (fun c1 => ?_) (fun c1 => absurd c1 (by decide))
    refine ma_iload_n dX12_goMove_15 rfl ?_
    refine ma_iconst dX12_goMove_16 ?_
    refine ma_rcmp_ne 33 dX12_goMove_17 rfl (by decide) (by decide) (fun c17 => ?_) (fun c17 => absurd c17 (by decide))
    refine ma_iload_n dX12_goMove_33 rfl ?_
    refine ma_iconst dX12_goMove_34 ?_
    refine ma_rcmp_ne 47 dX12_goMove_35 rfl (by decide) (by decide) (fun c35 => ?_) (fun c35 => absurd c35 (by decide))
    refine ma_aload_n dX12_goMove_47 rfl ?_
    refine ma_aload_n dX12_goMove_48 rfl ?_
    refine ma_iload_n dX12_goMove_49 rfl ?_
    refine ma_iload dX12_goMove_50 rfl ?_
    refine ma_cV [_, _, _] dX12_goMove_52 wX12_goFour lX12_434 iX12_goFour sX12_goFour rfl (by assumption) (Nat.le_of_ble_eq_true rfl) ?_
    refine c_X12_goFour hM hS hb nb hG hA rx ry (fun a E P b c => (hst2 a ⟨E, P, b, c⟩).2.1) (fun n => ?_) (fun a E P b c h' I' q1 q2 => ?_) (fun a E P b c h' I' TH C' q1 q4 q5 ⟨m, r, sg, hIS⟩ q7 => ?_)
    · -- none
      refine ma_istoreN dX12_goMove_55 (by decide) rfl ?_
      refine ma_iload dX12_goMove_57 rfl ?_
      refine ma_rif_ne 68 dX12_goMove_59 rfl (by decide) (fun c59 => ?_) (fun c59 => absurd c59 (by decide))
      refine ma_iload dX12_goMove_68 rfl ?_
      exact ma_iret dX12_goMove_70 rfl (K1 (by rw [en n]; decide))
    · -- cannot
      have k2 := K2 (by rw [ep a]; omega) E P (fun _ => b) (by rw [ep a, rf_four ht (ok a), if_neg c]; decide) h' I' q1 q2
      rw [ep a, rf_four ht (ok a), if_neg c] at k2
      refine ma_istoreN dX12_goMove_55 (by decide) rfl ?_
      refine ma_iload dX12_goMove_57 rfl ?_
      refine ma_rif_ne 68 dX12_goMove_59 rfl (by decide) (fun c59 => ?_) (fun c59 => absurd c59 (by decide))
      refine ma_iload dX12_goMove_68 rfl ?_
      exact ma_iret dX12_goMove_70 rfl k2
    · -- done
      obtain ⟨e1, mr, hL, hG1⟩ := hst2 a ⟨E, P, b, c⟩
      subst e1
      have vC := mr_ok hG hC mr
      have q2 := q1.2.1
      have q3 := q1.2.2.2
      have hk0 : 0 ≤ plc t 3 x y z := by rw [ep a]; omega
      have hex : ∃ E P, ((3 : Int) = 1 ∨ (3 : Int) = 3 → BP t G E P) ∧ RF t G E P (plc t 3 x y z) = 0 := ⟨E, P, fun _ => b, by rw [ep a, rf_four ht (ok a), if_pos c]⟩
      refine ma_istoreN dX12_goMove_55 (by decide) rfl ?_
      refine ma_iload dX12_goMove_57 rfl ?_
      refine ma_rif_ne 68 dX12_goMove_59 rfl (by decide) (fun c59 => absurd c59 (by decide)) (fun c59 => ?_)
      refine ma_aload_n dX12_goMove_62 rfl ?_
      refine ma_aload_n dX12_goMove_63 rfl ?_
      refine ma_cV [_] dX12_goMove_64 wX12_number lX12_221 iX12_number sX12_number rfl (by first | assumption | exact q2) (Nat.le_of_ble_eq_true rfl) ?_
      refine m_number q2 q3 q4 nb nb2 (is_vg vC.1 hIS (fun k k0 _ => q7 k k0)) (is_cn vC.1 vC.2 hIS) q5 (fun h'' I'' L2 La ties2 p1 p2 p3 p4 p5 p6 => ?_)
      refine ma_pop dX12_goMove_67 rfl ?_
      refine ma_iload dX12_goMove_68 rfl ?_
      exact ma_iret dX12_goMove_70 rfl (K3 hk0 hex h'' I'' La (mp_tr q1 p1) p2 (stp_ag vC.1 vC.2 hIS q7 hL p4 p6 p5 hG1))
