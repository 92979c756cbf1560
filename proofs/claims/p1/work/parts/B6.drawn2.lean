/-- the ints that draws change -/
def KI2 (I I' : Nat → Int) : Prop := ∀ k, k ≠ 12 → k ≠ 32 → k ≠ 34 → k ≠ 56 → I' k = I k
theorem ki2_of {I I' : Nat → Int} (h : KI I I') : KI2 I I' := fun k a b c _ => h k a b c
theorem ki2_u {I I' : Nat → Int} {x : Int} (h : KI2 I I') : KI2 I (iu I' 56 x) := fun j a b c e => by
  rw [iu_n e]; exact h j a b c e
theorem ki2_tr {I I' I'' : Nat → Int} (h : KI2 I I') (h' : KI2 I' I'') : KI2 I I'' := fun j a b c e => (h' j a b c e).trans (h j a b c e)
abbrev mv2 : List Nat := [73, 78, 79, 80, 81, 82, 83, 84, 86, 87, 92, 93, 94, 95, 96, 97, 98, 100, 107]
theorem kp_m2 {h h' : ma_H} (k : kp h h' (100 :: mvl)) : kp h h' mv2 := kp_mo (by simp) k
/-- how the model stands while it draws -/
def MD (h h' : ma_H) (I I' : Nat → Int) (t : Int) (G : Int → Int) : Prop := kp h h' mv2 ∧ h' 73 = co 12 (mo I') ∧ KI2 I I' ∧ SMO h' ∧ (∃ A, h' 107 = ci 33 A ∧ AG t G A) ∧ ∃ W, h' 100 = ci 33 W
theorem one_no {t s t1 ok : Int} {G G1 : Int → Int} (hn : ¬ (0 ≤ dpl t s ∧ RFE t G (dk s) (dpl t s))) (h : ONE t G s t1 G1 ok) : t1 = t ∧ G1 = G ∧ ok = 0 := by
  rcases h with ⟨a, b, -, -⟩ | ⟨-, e1, e2, e3⟩
  · exact absurd ⟨a, b⟩ hn
  · exact ⟨e1, e2, e3⟩
theorem one_ye {t s t1 ok : Int} {G G1 : Int → Int} (hn : 0 ≤ dpl t s ∧ RFE t G (dk s) (dpl t s)) (h : ONE t G s t1 G1 ok) : STP t G (dpl t s) t1 G1 ∧ ok = 1 := by
  rcases h with ⟨-, -, a, b⟩ | ⟨a, -, -, -⟩
  · exact ⟨a, b⟩
  · exact absurd hn a
set_option maxHeartbeats 2000000 in
theorem l_mD93 {h : ma_H} {nx d : Nat} {seed n e k t s t1 ok : Int} {G G1 A W : Int → Int} {Q : Option ma_V → ma_H → Nat → Prop} {I : Nat → Int} (hM : h 73 = co 12 (mo I)) (hS : SMO h) (h107 : h 107 = ci 33 A) (hA : AG t G A) (h100 : h 100 = ci 33 W) (hG : VG t G) (hC : CN t G) (hs : I 56 = dend s) (hone : ONE t G s t1 G1 ok) (KO : ∀ h' I', MD h h' I I' t1 G1 → I' 56 = dend s → ma_J none mX12_drawn (d + 7) 0 0 140 [some (vr 73), some (vi seed), some (vi n), some (vi (e + ok)), some (vi k), some (vi (dk s)), some (vi (dtt s)), some (vi (du s)), some (vi (dw s))] [] h' nx Q) : ma_J none mX12_drawn (d + 7) 0 0 93 [some (vr 73), some (vi seed), some (vi n), some (vi e), some (vi k), some (vi (dk s)), some (vi (dtt s)), some (vi (du s)), some (vi (dw s))] [] h nx Q := by
  have ht := hG.1
  have di := d_in s
  refine ma_aload_n dX12_drawn_93 rfl ?_
  refine ma_getf dX12_drawn_94 fX12_112 (by first | assumption | exact ma_up_s _ _ _ | exact (ma_up_n (by decide)).trans (by assumption)) (by rfl) ?_
  refine ma_aload_n dX12_drawn_97 rfl ?_
  refine ma_getf dX12_drawn_98 fX12_90 (by first | assumption | exact ma_up_s _ _ _ | exact (ma_up_n (by decide)).trans (by assumption)) (by rfl) ?_
  refine ma_cS [_, _] dX12_drawn_101 wX12_lay lX12_168 tX12_lay (Nat.le_of_ble_eq_true rfl) ?_
  refine c_X12_lay h107 h100 (by decide) ?_
  refine ma_aload_n dX12_drawn_104 rfl ?_
  refine ma_aload_n dX12_drawn_105 rfl ?_
  refine ma_getf dX12_drawn_106 fX12_90 (by first | assumption | exact ma_up_s _ _ _ | exact (ma_up_n (by decide)).trans (by assumption)) (by rfl) ?_
  refine ma_iload dX12_drawn_109 rfl ?_
  refine ma_iload dX12_drawn_111 rfl ?_
  refine ma_iload dX12_drawn_113 rfl ?_
  refine ma_iload dX12_drawn_115 rfl ?_
  refine ma_cV [_, _, _, _, _] dX12_drawn_117 wX12_goMove lX12_440 iX12_goMove sX12_goMove rfl (by first | assumption | exact ma_up_s _ _ _ | exact (ma_up_n (by decide)).trans (by assumption)) (Nat.le_of_ble_eq_true rfl) ?_
  refine c_X12_goMove ((ma_up_n (by decide)).trans hM) (smo_n (by decide) (by decide) hS) (ma_up_s _ _ _) (by decide) (Or.inl (by decide)) hG hC hA di.1 (by unfold rg; omega) (by unfold rg; omega) (by unfold rg; omega) (t1 := t1) (G1 := G1) (fun a b => ?_) (fun a => ?_) (fun a E P b c h' I' m1 m2 => ?_) (fun a b h' I' A' m1 m2 m3 => ?_)
  · exact (one_ye ⟨a, b⟩ hone).1
  · obtain ⟨z2, z3, z4⟩ := one_no (fun z => by have q := z.1; unfold dpl at q; omega) hone
    subst z2 z3 z4
    rw [Int.add_zero] at KO
    refine ma_rif_ge 126 dX12_drawn_120 rfl (by decide) (fun c120 => absurd c120 (by decide)) (fun c120 => ?_)
    refine ma_goto 140 dX12_drawn_123 rfl ?_
    exact KO _ I ⟨(kp_up (by simp) (kp_rf _ _)), (ma_up_n (by decide)).trans hM, fun _ _ _ _ _ => rfl, smo_n (by decide) (by decide) hS, ⟨A, (ma_up_n (by decide)).trans h107, hA⟩, ⟨A, ma_up_s _ _ _⟩⟩ hs
  · obtain ⟨z2, z3, z4⟩ := one_no (fun z => rfe_un hG di.1 a b c z.2) hone
    subst z2 z3 z4
    rw [Int.add_zero] at KO
    have rb := RF_in (t := t1) (G := G1) (E := E) (P := P) (k := plc t1 (dk s) (dtt s) (du s) (dw s))
    have e107 : h' 107 = ci 33 A := (m1.1 107 (by decide)).trans ((ma_up_n (by decide)).trans h107)
    refine ma_rif_ge 126 dX12_drawn_120 rfl (by constructor <;> omega) (fun c120 => absurd c120 (by omega)) (fun c120 => ?_)
    refine ma_goto 140 dX12_drawn_123 rfl ?_
    exact KO h' I' ⟨kp_tr (kp_up (by simp) (kp_rf _ _)) (kp_m2 m1.1), m1.2.1, ki2_of m1.2.2.1, m1.2.2.2, ⟨A, e107, hA⟩, ⟨A, m2⟩⟩ ((m1.2.2.1 56 (by decide) (by decide) (by decide)).trans hs)
  · obtain ⟨z1, z4⟩ := one_ye ⟨a, b⟩ hone
    subst z4
    have e107 : h' 107 = ci 33 A := (m1.1 107 (by decide)).trans ((ma_up_n (by decide)).trans h107)
    have e73 := m1.2.1
    refine ma_rif_ge 126 dX12_drawn_120 rfl (by decide) (fun c120 => ?_) (fun c120 => absurd c120 (by decide))
    refine ma_aload_n dX12_drawn_126 rfl ?_
    refine ma_getf dX12_drawn_127 fX12_90 (by first | assumption | exact ma_up_s _ _ _ | exact (ma_up_n (by decide)).trans (by assumption)) (by rfl) ?_
    refine ma_aload_n dX12_drawn_130 rfl ?_
    refine ma_getf dX12_drawn_131 fX12_112 (by first | assumption | exact ma_up_s _ _ _ | exact (ma_up_n (by decide)).trans (by assumption)) (by rfl) ?_
    refine ma_cS [_, _] dX12_drawn_134 wX12_lay lX12_168 tX12_lay (Nat.le_of_ble_eq_true rfl) ?_
    refine c_X12_lay m2 e107 (by decide) ?_
    refine ma_iincN dX12_drawn_137 rfl (by decide) rfl ?_
    exact KO _ I' ⟨kp_up (by simp) (kp_tr (kp_up (by simp) (kp_rf _ _)) (kp_m2 m1.1)), (ma_up_n (by decide)).trans m1.2.1, ki2_of m1.2.2.1, smo_n (by decide) (by decide) m1.2.2.2, ⟨A', ma_up_s _ _ _, m3⟩, ⟨A', (ma_up_n (by decide)).trans m2⟩⟩ ((m1.2.2.1 56 (by decide) (by decide) (by decide)).trans hs)
theorem iu_iu {I : Nat → Int} {k : Nat} {x y : Int} : iu (iu I k x) k y = iu I k y := by
  funext j
  unfold iu
  split <;> rfl
set_option maxHeartbeats 2000000 in
theorem l_mD38 {nx d : Nat} {seed n t' e' : Int} {G' : Int → Int} {Q : Option ma_V → ma_H → Nat → Prop} (hn : 1 ≤ n ∧ n ≤ 12) : ∀ (r : Nat) (k e : Int) (h : ma_H) (I : Nat → Int) (s t : Int) (G : Int → Int) (x5 x6 x7 x8 : Option ma_V), 0 ≤ k → k + r = n → h 73 = co 12 (mo I) → SMO h → (∃ A, h 107 = ci 33 A ∧ AG t G A) → (∃ W, h 100 = ci 33 W) → VG t G → CN t G → I 56 = s → DRW r s t G e t' G' e' → (∀ h' I' x5 x6 x7 x8, MD h h' I I' t' G' → ma_J none mX12_drawn (d + 7) 0 0 146 [some (vr 73), some (vi seed), some (vi n), some (vi e'), some (vi n), x5, x6, x7, x8] [] h' nx Q) → ma_J none mX12_drawn (d + 7) 0 0 38 [some (vr 73), some (vi seed), some (vi n), some (vi e), some (vi k), x5, x6, x7, x8] [] h nx Q := by
  intro r
  induction r with
  | zero =>
    intro k e h I s t G x5 x6 x7 x8 k0 kr hM hS hA1 hW hG hC hs hd KO
    refine ma_iload dX12_drawn_38 rfl ?_
    refine ma_iload_n dX12_drawn_40 rfl ?_
    refine ma_rcmp_ge 146 dX12_drawn_41 rfl (by constructor <;> omega) (by constructor <;> omega) (fun c41 => ?_) (fun c41 => ?_)
    · -- 146
      have e4 : k = n := by omega
      subst e4
      obtain ⟨q1, q2, q3⟩ := hd
      subst q1 q2 q3
      exact KO h I _ _ _ _ ⟨kp_rf _ _, hM, fun _ _ _ _ _ => rfl, hS, hA1, hW⟩
    · -- 44
      exact absurd c41 (by omega)
  | succ r ih =>
    intro k e h I s t G x5 x6 x7 x8 k0 kr hM hS hA1 hW hG hC hs hd KO
    refine ma_iload dX12_drawn_38 rfl ?_
    refine ma_iload_n dX12_drawn_40 rfl ?_
    refine ma_rcmp_ge 146 dX12_drawn_41 rfl (by constructor <;> omega) (by constructor <;> omega) (fun c41 => ?_) (fun c41 => ?_)
    · -- 146
      exact absurd c41 (by omega)
    · -- 44
      obtain ⟨t1, G1, ok, hone, hdr⟩ := hd
      have vv := one_ok hG hC hone
      obtain ⟨A, h107, hA⟩ := hA1
      obtain ⟨W, h100⟩ := hW
      have di := d_in s
      have dk0 : dv (dnx s) 4 = dk s := rfl
      have kx : kp h (ma_up h 73 (co 12 (mo (iu I 56 (dend s))))) mv2 := kp_up (by simp) (kp_rf _ _)
      have KE := l_mD93 (d := d) (seed := seed) (n := n) (e := e) (k := k) (Q := Q) (nx := nx) (h := (ma_up h 73 (co 12 (mo (iu I 56 (dend s)))))) (ma_up_s _ _ _) (smo_n (by decide) (by decide) hS) ((ma_up_n (by decide)).trans h107) hA ((ma_up_n (by decide)).trans h100) hG hC (iu_s _ _ _) hone (fun h' I' m1 m2 => by
        refine ma_iincN dX12_drawn_140 rfl (by decide) rfl ?_
        refine ma_goto 38 dX12_drawn_143 rfl ?_
        exact ih (k + 1) (e + ok) h' I' _ _ _ _ _ _ _ (by omega) (by omega) m1.2.1 m1.2.2.2.1 m1.2.2.2.2.1 m1.2.2.2.2.2 vv.1 vv.2 m2 hdr (fun h'' I'' y5 y6 y7 y8 a1 => KO h'' I'' y5 y6 y7 y8 ⟨kp_tr (kp_tr kx m1.1) a1.1, a1.2.1, ki2_tr (ki2_tr (ki2_u (fun _ _ _ _ _ => rfl)) m1.2.2.1) a1.2.2.1, a1.2.2.2⟩))
      refine ma_aload_n dX12_drawn_44 rfl ?_
      refine ma_iconst dX12_drawn_45 ?_
      refine ma_cV [_] dX12_drawn_46 wX12_draw lX12_495 iX12_draw sX12_draw rfl (by first | exact ma_up_s _ _ _ | assumption) (Nat.le_of_ble_eq_true rfl) ?_
      refine c_X12_draw hM (by decide) ?_
      rw [hs]
      refine ma_istoreN dX12_drawn_49 (by decide) rfl ?_
      refine ma_aload_n dX12_drawn_51 rfl ?_
      refine ma_bipush dX12_drawn_52 ?_
      refine ma_cV [_] dX12_drawn_54 wX12_draw lX12_495 iX12_draw sX12_draw rfl (by first | exact ma_up_s _ _ _ | assumption) (Nat.le_of_ble_eq_true rfl) ?_
      refine c_X12_draw (ma_up_s _ _ _) (by decide) ?_
      rw [ma_up_up, iu_s, iu_iu]
      refine ma_istoreN dX12_drawn_57 (by decide) rfl ?_
      refine ma_iload dX12_drawn_59 rfl ?_
      refine ma_iconst dX12_drawn_61 ?_
      refine ma_rcmp_ne 69 dX12_drawn_62 rfl (by constructor <;> omega) (by decide) (fun c62 => ?_) (fun c62 => ?_)
      · -- 69
        refine ma_aload_n dX12_drawn_69 rfl ?_
        refine ma_iconst dX12_drawn_70 ?_
        refine ma_cV [_] dX12_drawn_71 wX12_draw lX12_495 iX12_draw sX12_draw rfl (by first | exact ma_up_s _ _ _ | assumption) (Nat.le_of_ble_eq_true rfl) ?_
        refine c_X12_draw (ma_up_s _ _ _) (by decide) ?_
        rw [ma_up_up, iu_s, iu_iu]
        refine ma_istoreN dX12_drawn_74 (by decide) rfl ?_
        refine ma_iload dX12_drawn_76 rfl ?_
        refine ma_iconst dX12_drawn_78 ?_
        refine ma_rcmp_ne 90 dX12_drawn_79 rfl (by constructor <;> omega) (by decide) (fun c79 => ?_) (fun c79 => ?_)
        · -- 90
          refine ma_iconst dX12_drawn_90 ?_
          refine ma_istoreN dX12_drawn_91 (by decide) rfl ?_
          have c62' : ¬ dk s = 2 := c62
          have c79' : ¬ dk s = 1 := c79
          have q := KE
          unfold dend dw du ds3 at q
          simp only [if_neg c62', if_neg c79'] at q
          exact q
        · -- 82
          refine ma_aload_n dX12_drawn_82 rfl ?_
          refine ma_iconst dX12_drawn_83 ?_
          refine ma_cV [_] dX12_drawn_84 wX12_draw lX12_495 iX12_draw sX12_draw rfl (by first | exact ma_up_s _ _ _ | assumption) (Nat.le_of_ble_eq_true rfl) ?_
          refine c_X12_draw (ma_up_s _ _ _) (by decide) ?_
          rw [ma_up_up, iu_s, iu_iu]
          refine ma_goto 91 dX12_drawn_87 rfl ?_
          refine ma_istoreN dX12_drawn_91 (by decide) rfl ?_
          have c62' : ¬ dk s = 2 := c62
          have c79' : dk s = 1 := c79
          have q := KE
          unfold dend dw du ds3 at q
          simp only [if_neg c62', if_pos c79'] at q
          exact q
      · -- 65
        refine ma_iconst dX12_drawn_65 ?_
        refine ma_goto 74 dX12_drawn_66 rfl ?_
        refine ma_istoreN dX12_drawn_74 (by decide) rfl ?_
        refine ma_iload dX12_drawn_76 rfl ?_
        refine ma_iconst dX12_drawn_78 ?_
        refine ma_rcmp_ne 90 dX12_drawn_79 rfl (by constructor <;> omega) (by decide) (fun c79 => ?_) (fun c79 => ?_)
        · -- 90
          refine ma_iconst dX12_drawn_90 ?_
          refine ma_istoreN dX12_drawn_91 (by decide) rfl ?_
          have c62' : dk s = 2 := c62
          have c79' : ¬ dk s = 1 := c79
          have q := KE
          unfold dend dw du ds3 at q
          simp only [if_pos c62', if_neg c79'] at q
          exact q
        · -- 82
          refine ma_aload_n dX12_drawn_82 rfl ?_
          refine ma_iconst dX12_drawn_83 ?_
          refine ma_cV [_] dX12_drawn_84 wX12_draw lX12_495 iX12_draw sX12_draw rfl (by first | exact ma_up_s _ _ _ | assumption) (Nat.le_of_ble_eq_true rfl) ?_
          refine c_X12_draw (ma_up_s _ _ _) (by decide) ?_
          rw [ma_up_up, iu_s, iu_iu]
          refine ma_goto 91 dX12_drawn_87 rfl ?_
          refine ma_istoreN dX12_drawn_91 (by decide) rfl ?_
          exfalso; omega
set_option maxHeartbeats 2000000 in
theorem c_X12_drawn {h : ma_H} {nx d : Nat} {t seed n t' e' : Int} {G G' A B0 B1 fi0 W : Int → Int} {Q : Option ma_V → ma_H → Nat → Prop} {I : Nat → Int} (hM : h 73 = co 12 (mo I)) (hS : SMO h) (h74 : h 74 = ci 33 A) (hA : AG t G A) (h107 : h 107 = ci 33 B0) (h100 : h 100 = ci 33 B1) (h88 : h 88 = ci 48 fi0) (h76 : h 76 = cl 96 W) (hG : VG t G) (hC : CN t G) (rs : rg seed) (rn : rg n) (hdr : 1 ≤ n ∧ n ≤ 12 → DRW n.toNat seed t G 0 t' G' e') (K1 : ¬ (1 ≤ n ∧ n ≤ 12) → Q (some (vi (-1))) (ma_up h 73 (co 12 (mo (iu I 5 0)))) nx) (K : 1 ≤ n ∧ n ≤ 12 → ∀ h'' I'' fl E P, BP t' G' E P → (fl = 1 ∧ MF t' G' E P) ∨ (fl = 0 ∧ ¬ MF t' G' E P) → kp h h'' (76 :: 88 :: mv2) → h'' 73 = co 12 (mo I'') → (∀ k, k ≠ 4 → k ≠ 5 → k ≠ 12 → k ≠ 22 → k ≠ 32 → k ≠ 34 → k ≠ 56 → I'' k = I k) → I'' 4 = 2 → I'' 5 = 0 → SMO h'' → h'' 76 = cl 96 (uf (uf W 0 e') 1 fl) → (∃ fi, h'' 88 = ci 48 fi) → Q (some (vi t')) h'' nx) : ma_Ct mX12_drawn (d + 7) 0 0 [vr 73, vi seed, vi n] h nx Q := by
  have ht := hG.1
  have rn' := rn
  unfold rg at rn'
  refine ma_Ct.of (by decide +kernel) (Nat.le_of_ble_eq_true rfl) ?_
  refine ma_aload_n dX12_drawn_0 rfl ?_
  refine ma_iconst dX12_drawn_1 ?_
  refine ma_puti dX12_drawn_2 fX12_128 (by first | exact ma_up_s _ _ _ | assumption | exact (ma_up_n (by decide)).trans (by assumption)) (Nat.le_of_ble_eq_true rfl) ?_
  rw [mo_5]
  refine ma_iload_n dX12_drawn_5 rfl ?_
  refine ma_iconst dX12_drawn_6 ?_
  refine ma_bipush dX12_drawn_7 ?_
  refine ma_cS [_, _, _] dX12_drawn_9 wX12_in lX12_179 tX12_in (Nat.le_of_ble_eq_true rfl) ?_
  refine c_X12_in rn (by unfold rg; omega) (by unfold rg; omega) (fun a1 a2 => ?_) (fun a1 => ?_)
  · -- k1
    refine ma_rif_ne 17 dX12_drawn_12 rfl (by decide) (fun c12 => ?_) (fun c12 => absurd c12 (by decide))
    refine ma_aload_n dX12_drawn_17 rfl ?_
    refine ma_iload_n dX12_drawn_18 rfl ?_
    refine ma_puti dX12_drawn_19 fX12_491 (by first | exact ma_up_s _ _ _ | assumption | exact (ma_up_n (by decide)).trans (by assumption)) (Nat.le_of_ble_eq_true rfl) ?_
    rw [mo_56, ma_up_up]
    refine ma_aload_n dX12_drawn_22 rfl ?_
    refine ma_getf dX12_drawn_23 fX12_9 (by first | exact ma_up_s _ _ _ | assumption | exact (ma_up_n (by decide)).trans (by assumption)) (by rfl) ?_
    refine ma_aload_n dX12_drawn_26 rfl ?_
    refine ma_getf dX12_drawn_27 fX12_112 (by first | exact ma_up_s _ _ _ | assumption | exact (ma_up_n (by decide)).trans (by assumption)) (by rfl) ?_
    refine ma_cS [_, _] dX12_drawn_30 wX12_lay lX12_168 tX12_lay (Nat.le_of_ble_eq_true rfl) ?_
    refine c_X12_lay ((ma_up_n (by decide)).trans h74) ((ma_up_n (by decide)).trans h107) (by decide) ?_
    refine ma_iconst dX12_drawn_33 ?_
    refine ma_istore_nN dX12_drawn_34 (by decide) rfl ?_
    refine ma_iconst dX12_drawn_35 ?_
    refine ma_istoreN dX12_drawn_36 (by decide) rfl ?_
    have hn : 1 ≤ n ∧ n ≤ 12 := ⟨by omega, by omega⟩
    have dd := hdr hn
    have vv := drw_ok n.toNat hG hC dd
    have eb := drw_b n.toNat dd
    have k0 : kp h (ma_up (ma_up h 73 (co 12 (mo (iu (iu I 5 0) 56 seed)))) 107 (ci 33 A)) mv2 := kp_up (by simp) (kp_up (by simp) (kp_rf _ _))
    refine l_mD38 hn n.toNat 0 0 _ (iu (iu I 5 0) 56 seed) seed t G _ _ _ _ (by omega) (by omega) ((ma_up_n (by decide)).trans (ma_up_s _ _ _)) (smo_n (by decide) (by decide) (smo_n (by decide) (by decide) hS)) ⟨A, ma_up_s _ _ _, hA⟩ ⟨B1, (ma_up_n (by decide)).trans ((ma_up_n (by decide)).trans h100)⟩ hG hC (iu_s _ _ _) dd (fun h' I' _ _ _ _ m1 => ?_)
    have e73 := m1.2.1
    obtain ⟨A', e107, hA'⟩ := m1.2.2.2.2.1
    obtain ⟨f86, e86⟩ : ∃ f, h' 86 = ci 128 f := m1.2.2.2.1.1 86 (by decide)
    obtain ⟨f87, e87⟩ : ∃ f, h' 87 = ci 32 f := m1.2.2.2.1.1 87 (by decide)
    have e88 : h' 88 = ci 48 fi0 := (m1.1 88 (by decide)).trans ((ma_up_n (by decide)).trans ((ma_up_n (by decide)).trans h88))
    have e76 : h' 76 = cl 96 W := (m1.1 76 (by decide)).trans ((ma_up_n (by decide)).trans ((ma_up_n (by decide)).trans h76))
    refine ma_aload_n dX12_drawn_146 rfl ?_
    refine ma_iconst dX12_drawn_147 ?_
    refine ma_puti dX12_drawn_148 fX12_132 (by first | exact ma_up_s _ _ _ | assumption | exact (ma_up_n (by decide)).trans (ma_up_s _ _ _) | exact (ma_up_n (by decide)).trans (by assumption) | exact (ma_up_n (by decide)).trans ((ma_up_n (by decide)).trans (by assumption)) | exact (ma_up_n (by decide)).trans ((ma_up_n (by decide)).trans ((ma_up_n (by decide)).trans (by assumption)))) (Nat.le_of_ble_eq_true rfl) ?_
    rw [mo_4]
    refine ma_aload_n dX12_drawn_151 rfl ?_
    refine ma_iload_n dX12_drawn_152 rfl ?_
    refine ma_i2l dX12_drawn_153 ?_
    refine ma_cV [_] dX12_drawn_154 wX12_tell lX12_231 iX12_tell sX12_tell rfl (by first | exact ma_up_s _ _ _ | assumption | exact (ma_up_n (by decide)).trans (ma_up_s _ _ _) | exact (ma_up_n (by decide)).trans (by assumption) | exact (ma_up_n (by decide)).trans ((ma_up_n (by decide)).trans (by assumption)) | exact (ma_up_n (by decide)).trans ((ma_up_n (by decide)).trans ((ma_up_n (by decide)).trans (by assumption)))) (Nat.le_of_ble_eq_true rfl) ?_
    refine c_X12_tell (n := 0) (ma_up_s _ _ _) ((ma_up_n (by decide)).trans e76) (by rw [iu_s]; decide) ?_
    rw [iu_s, iw_of (by omega) (by omega)]
    refine ma_aload_n dX12_drawn_157 rfl ?_
    refine ma_aload_n dX12_drawn_158 rfl ?_
    refine ma_aload_n dX12_drawn_159 rfl ?_
    refine ma_getf dX12_drawn_160 fX12_112 (by first | exact ma_up_s _ _ _ | assumption | exact (ma_up_n (by decide)).trans (ma_up_s _ _ _) | exact (ma_up_n (by decide)).trans (by assumption) | exact (ma_up_n (by decide)).trans ((ma_up_n (by decide)).trans (by assumption)) | exact (ma_up_n (by decide)).trans ((ma_up_n (by decide)).trans ((ma_up_n (by decide)).trans (by assumption)))) (by rfl) ?_
    refine ma_cV [_] dX12_drawn_163 wX12_isManifold lX12_325 iX12_isManifold sX12_isManifold rfl (by first | exact ma_up_s _ _ _ | assumption | exact (ma_up_n (by decide)).trans (ma_up_s _ _ _) | exact (ma_up_n (by decide)).trans (by assumption) | exact (ma_up_n (by decide)).trans ((ma_up_n (by decide)).trans (by assumption)) | exact (ma_up_n (by decide)).trans ((ma_up_n (by decide)).trans ((ma_up_n (by decide)).trans (by assumption)))) (Nat.le_of_ble_eq_true rfl) ?_
    refine c_X12_isManifold (ma_up_s _ _ _) ((ma_up_n (by decide)).trans ((ma_up_n (by decide)).trans ((ma_up_n (by decide)).trans (e107)))) (by decide) vv.1 hA' ((ma_up_n (by decide)).trans ((ma_up_n (by decide)).trans ((ma_up_n (by decide)).trans (e86)))) ((ma_up_n (by decide)).trans ((ma_up_n (by decide)).trans ((ma_up_n (by decide)).trans (e87)))) ((ma_up_n (by decide)).trans ((ma_up_n (by decide)).trans ((ma_up_n (by decide)).trans (e88)))) (fun E P F R fi m hB nb hF hmf => ?_) (fun E P F R fi m hB nb hF hmf => ?_)
    · -- manifold
      refine ma_rif_eq 173 dX12_drawn_166 rfl (by decide) (fun c166 => absurd c166 (by decide)) (fun c166 => ?_)
      refine ma_lconst (z := 1) dX12_drawn_169 rfl ?_
      refine ma_goto 174 dX12_drawn_170 rfl ?_
      refine ma_cV [_] dX12_drawn_174 wX12_tell lX12_231 iX12_tell sX12_tell rfl (by first | exact ma_up_s _ _ _ | exact (ma_up_n (by decide)).trans ((ma_up_n (by decide)).trans ((ma_up_n (by decide)).trans ((ma_up_n (by decide)).trans ((ma_up_n (by decide)).trans ((ma_up_n (by decide)).trans ((ma_up_n (by decide)).trans ((ma_up_n (by decide)).trans (e107)))))))) | exact (ma_up_n (by decide)).trans ((ma_up_n (by decide)).trans ((ma_up_n (by decide)).trans ((ma_up_n (by decide)).trans ((ma_up_n (by decide)).trans ((ma_up_n (by decide)).trans ((ma_up_n (by decide)).trans ((ma_up_n (by decide)).trans ((ma_up_n (by decide)).trans (e107))))))))) | exact (ma_up_n (by decide)).trans ((ma_up_n (by decide)).trans ((ma_up_n (by decide)).trans ((ma_up_n (by decide)).trans ((ma_up_n (by decide)).trans ((ma_up_n (by decide)).trans ((ma_up_n (by decide)).trans (e107)))))))) (Nat.le_of_ble_eq_true rfl) ?_
      refine c_X12_tell (n := 0) (ma_up_s _ _ _) ((ma_up_n (by decide)).trans ((ma_up_n (by decide)).trans ((ma_up_n (by decide)).trans ((ma_up_n (by decide)).trans ((ma_up_n (by decide)).trans (ma_up_s _ _ _)))))) (by rw [iu_n (by decide), iu_s]; decide) ?_
      refine ma_aload_n dX12_drawn_177 rfl ?_
      refine ma_getf dX12_drawn_178 fX12_112 (by first | exact ma_up_s _ _ _ | exact (ma_up_n (by decide)).trans ((ma_up_n (by decide)).trans ((ma_up_n (by decide)).trans ((ma_up_n (by decide)).trans ((ma_up_n (by decide)).trans ((ma_up_n (by decide)).trans ((ma_up_n (by decide)).trans ((ma_up_n (by decide)).trans (e107)))))))) | exact (ma_up_n (by decide)).trans ((ma_up_n (by decide)).trans ((ma_up_n (by decide)).trans ((ma_up_n (by decide)).trans ((ma_up_n (by decide)).trans ((ma_up_n (by decide)).trans ((ma_up_n (by decide)).trans ((ma_up_n (by decide)).trans ((ma_up_n (by decide)).trans (e107))))))))) | exact (ma_up_n (by decide)).trans ((ma_up_n (by decide)).trans ((ma_up_n (by decide)).trans ((ma_up_n (by decide)).trans ((ma_up_n (by decide)).trans ((ma_up_n (by decide)).trans ((ma_up_n (by decide)).trans (e107)))))))) (by rfl) ?_
      refine ma_iconst dX12_drawn_181 ?_
      refine ma_iald dX12_drawn_182 (by first | exact ma_up_s _ _ _ | exact (ma_up_n (by decide)).trans ((ma_up_n (by decide)).trans ((ma_up_n (by decide)).trans ((ma_up_n (by decide)).trans ((ma_up_n (by decide)).trans ((ma_up_n (by decide)).trans ((ma_up_n (by decide)).trans ((ma_up_n (by decide)).trans (e107)))))))) | exact (ma_up_n (by decide)).trans ((ma_up_n (by decide)).trans ((ma_up_n (by decide)).trans ((ma_up_n (by decide)).trans ((ma_up_n (by decide)).trans ((ma_up_n (by decide)).trans ((ma_up_n (by decide)).trans ((ma_up_n (by decide)).trans ((ma_up_n (by decide)).trans (e107))))))))) | exact (ma_up_n (by decide)).trans ((ma_up_n (by decide)).trans ((ma_up_n (by decide)).trans ((ma_up_n (by decide)).trans ((ma_up_n (by decide)).trans ((ma_up_n (by decide)).trans ((ma_up_n (by decide)).trans (e107)))))))) (by omega) (by omega) (by omega) ?_
      rw [hA'.1]
      refine ma_iret dX12_drawn_183 rfl (K hn _ _ 1 E P hB.1 (Or.inl ⟨rfl, hmf⟩) ?_ (ma_up_s _ _ _) (fun k n4 n5 n12 n22 n32 n34 n56 => ?_) ?_ ?_ ?_ ?_ ?_)
      · refine kp_tr (kp_mo (by simp) k0) (kp_tr (kp_mo (by simp) m1.1) ?_)
        repeat (first | exact kp_rf _ _ | refine kp_up (by simp) ?_)
      · rw [iu_n n4, iu_n n22, iu_n n4, iu_n n4]
        rw [m1.2.2.1 k n12 n32 n34 n56, iu_n n56, iu_n n5]
      · rw [iu_s, iu_n (by decide), iu_s]; rfl
      · rw [iu_n (by decide), iu_n (by decide), iu_n (by decide), iu_n (by decide), m1.2.2.1 5 (by decide) (by decide) (by decide) (by decide), iu_n (by decide), iu_s]
      · repeat (first | exact m1.2.2.2.1 | refine smo_n (by decide) (by decide) ?_ | refine smo_a rfl (by decide) ?_)
      · rw [ma_up_n (by decide), ma_up_s, iu_n (by decide), iu_s]; rfl
      · exact ⟨fi, (ma_up_n (by decide)).trans ((ma_up_n (by decide)).trans ((ma_up_n (by decide)).trans (ma_up_s _ _ _)))⟩
    · -- not
      refine ma_rif_eq 173 dX12_drawn_166 rfl (by decide) (fun c166 => ?_) (fun c166 => absurd c166 (by decide))
      refine ma_lconst (z := 0) dX12_drawn_173 rfl ?_
      refine ma_cV [_] dX12_drawn_174 wX12_tell lX12_231 iX12_tell sX12_tell rfl (by first | exact ma_up_s _ _ _ | exact (ma_up_n (by decide)).trans ((ma_up_n (by decide)).trans ((ma_up_n (by decide)).trans ((ma_up_n (by decide)).trans ((ma_up_n (by decide)).trans ((ma_up_n (by decide)).trans ((ma_up_n (by decide)).trans ((ma_up_n (by decide)).trans (e107)))))))) | exact (ma_up_n (by decide)).trans ((ma_up_n (by decide)).trans ((ma_up_n (by decide)).trans ((ma_up_n (by decide)).trans ((ma_up_n (by decide)).trans ((ma_up_n (by decide)).trans ((ma_up_n (by decide)).trans ((ma_up_n (by decide)).trans ((ma_up_n (by decide)).trans (e107))))))))) | exact (ma_up_n (by decide)).trans ((ma_up_n (by decide)).trans ((ma_up_n (by decide)).trans ((ma_up_n (by decide)).trans ((ma_up_n (by decide)).trans ((ma_up_n (by decide)).trans ((ma_up_n (by decide)).trans (e107)))))))) (Nat.le_of_ble_eq_true rfl) ?_
      refine c_X12_tell (n := 0) (ma_up_s _ _ _) ((ma_up_n (by decide)).trans ((ma_up_n (by decide)).trans ((ma_up_n (by decide)).trans ((ma_up_n (by decide)).trans ((ma_up_n (by decide)).trans (ma_up_s _ _ _)))))) (by rw [iu_n (by decide), iu_s]; decide) ?_
      refine ma_aload_n dX12_drawn_177 rfl ?_
      refine ma_getf dX12_drawn_178 fX12_112 (by first | exact ma_up_s _ _ _ | exact (ma_up_n (by decide)).trans ((ma_up_n (by decide)).trans ((ma_up_n (by decide)).trans ((ma_up_n (by decide)).trans ((ma_up_n (by decide)).trans ((ma_up_n (by decide)).trans ((ma_up_n (by decide)).trans ((ma_up_n (by decide)).trans (e107)))))))) | exact (ma_up_n (by decide)).trans ((ma_up_n (by decide)).trans ((ma_up_n (by decide)).trans ((ma_up_n (by decide)).trans ((ma_up_n (by decide)).trans ((ma_up_n (by decide)).trans ((ma_up_n (by decide)).trans ((ma_up_n (by decide)).trans ((ma_up_n (by decide)).trans (e107))))))))) | exact (ma_up_n (by decide)).trans ((ma_up_n (by decide)).trans ((ma_up_n (by decide)).trans ((ma_up_n (by decide)).trans ((ma_up_n (by decide)).trans ((ma_up_n (by decide)).trans ((ma_up_n (by decide)).trans (e107)))))))) (by rfl) ?_
      refine ma_iconst dX12_drawn_181 ?_
      refine ma_iald dX12_drawn_182 (by first | exact ma_up_s _ _ _ | exact (ma_up_n (by decide)).trans ((ma_up_n (by decide)).trans ((ma_up_n (by decide)).trans ((ma_up_n (by decide)).trans ((ma_up_n (by decide)).trans ((ma_up_n (by decide)).trans ((ma_up_n (by decide)).trans ((ma_up_n (by decide)).trans (e107)))))))) | exact (ma_up_n (by decide)).trans ((ma_up_n (by decide)).trans ((ma_up_n (by decide)).trans ((ma_up_n (by decide)).trans ((ma_up_n (by decide)).trans ((ma_up_n (by decide)).trans ((ma_up_n (by decide)).trans ((ma_up_n (by decide)).trans ((ma_up_n (by decide)).trans (e107))))))))) | exact (ma_up_n (by decide)).trans ((ma_up_n (by decide)).trans ((ma_up_n (by decide)).trans ((ma_up_n (by decide)).trans ((ma_up_n (by decide)).trans ((ma_up_n (by decide)).trans ((ma_up_n (by decide)).trans (e107)))))))) (by omega) (by omega) (by omega) ?_
      rw [hA'.1]
      refine ma_iret dX12_drawn_183 rfl (K hn _ _ 0 E P hB.1 (Or.inr ⟨rfl, hmf⟩) ?_ (ma_up_s _ _ _) (fun k n4 n5 n12 n22 n32 n34 n56 => ?_) ?_ ?_ ?_ ?_ ?_)
      · refine kp_tr (kp_mo (by simp) k0) (kp_tr (kp_mo (by simp) m1.1) ?_)
        repeat (first | exact kp_rf _ _ | refine kp_up (by simp) ?_)
      · rw [iu_n n4, iu_n n22, iu_n n4, iu_n n4]
        rw [m1.2.2.1 k n12 n32 n34 n56, iu_n n56, iu_n n5]
      · rw [iu_s, iu_n (by decide), iu_s]; rfl
      · rw [iu_n (by decide), iu_n (by decide), iu_n (by decide), iu_n (by decide), m1.2.2.1 5 (by decide) (by decide) (by decide) (by decide), iu_n (by decide), iu_s]
      · repeat (first | exact m1.2.2.2.1 | refine smo_n (by decide) (by decide) ?_ | refine smo_a rfl (by decide) ?_)
      · rw [ma_up_n (by decide), ma_up_s, iu_n (by decide), iu_s]; rfl
      · exact ⟨fi, (ma_up_n (by decide)).trans ((ma_up_n (by decide)).trans ((ma_up_n (by decide)).trans (ma_up_s _ _ _)))⟩
  · -- k0
    refine ma_rif_ne 17 dX12_drawn_12 rfl (by decide) (fun c12 => absurd c12 (by decide)) (fun c12 => ?_)
    refine ma_iconst dX12_drawn_15 ?_
    exact ma_iret dX12_drawn_16 rfl (K1 (by omega))
