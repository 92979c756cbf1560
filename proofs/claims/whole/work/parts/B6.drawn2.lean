/-- the ints that draws change -/
def KI2 (I I' : Nat → Int) : Prop := ∀ k, k ≠ 12 → k ≠ 32 → k ≠ 34 → k ≠ 56 → I' k = I k
theorem ki2_of {I I' : Nat → Int} (h : KI I I') : KI2 I I' := fun k a b c _ => h k a b c
theorem ki2_u {I I' : Nat → Int} {x : Int} (h : KI2 I I') : KI2 I (iu I' 56 x) := fun j a b c e => by
  rw [iu_n e]; exact h j a b c e
theorem ki2_tr {I I' I'' : Nat → Int} (h : KI2 I I') (h' : KI2 I' I'') : KI2 I I'' := fun j a b c e => (h' j a b c e).trans (h j a b c e)
abbrev mv2 : List Nat := [73, 78, 79, 80, 81, 82, 83, 84, 86, 87, 92, 93, 94, 95, 96, 97, 98, 100, 107]
theorem kp_m2 {h h' : ma_H} (k : kp h h' (100 :: mvl)) : kp h h' mv2 := kp_mo (by simp) k
/-- how the model stands while it draws -/
def MD (h h' : ma_H) (I I' : Nat → Int) (t : Int) (G : Int → Int) : Prop := kp h h' mv2 ∧ h' 73 = co 12 (mo I') ∧ KI2 I I' ∧ SMO h' ∧ (∃ A, h' 107 = ci 33 A ∧ AG t G A) ∧ ∃ W, h' 100 = ci 33 W
theorem one_no {t s t1 ok : Int} {G G1 : Int → Int} (hn : ¬ (0 ≤ dpl t s ∧ RFE t G (dk s) (dpl t s))) (h : ONE t G s t1 G1 ok) : t1 = t ∧ G1 = G ∧ ok = 0 := by
  rcases h with ⟨a, b, -, -⟩ | ⟨-, e1, e2, e3⟩
  · exact absurd ⟨a, b⟩ hn
  · exact ⟨e1, e2, e3⟩
theorem one_ye {t s t1 ok : Int} {G G1 : Int → Int} (hn : 0 ≤ dpl t s ∧ RFE t G (dk s) (dpl t s)) (h : ONE t G s t1 G1 ok) : STP t G (dpl t s) t1 G1 ∧ ok = 1 := by
  rcases h with ⟨-, -, a, b⟩ | ⟨a, -, -, -⟩
  · exact ⟨a, b⟩
  · exact absurd hn a
set_option maxHeartbeats 2000000 in
theorem l_mD93 {h : ma_H} {nx d : Nat} {seed n e k t s t1 ok : Int} {G G1 A W : Int → Int} {Q : Option ma_V → ma_H → Nat → Prop} {I : Nat → Int} (hM : h 73 = co 12 (mo I)) (hS : SMO h) (h107 : h 107 = ci 33 A) (hA : AG t G A) (h100 : h 100 = ci 33 W) (hG : VG t G) (hC : CN t G) (hs : I 56 = dend s) (hone : ONE t G s t1 G1 ok) (KO : ∀ h' I', MD h h' I I' t1 G1 → I' 56 = dend s → ma_J none mX12_drawn (d + 7) 0 0 140 [some (vr 73), some (vi seed), some (vi n), some (vi (e + ok)), some (vi k), some (vi (dk s)), some (vi (dtt s)), some (vi (du s)), some (vi (dw s))] [] h' nx Q) : ma_J none mX12_drawn (d + 7) 0 0 93 [some (vr 73), some (vi seed), some (vi n), some (vi e), some (vi k), some (vi (dk s)), some (vi (dtt s)), some (vi (du s)), some (vi (dw s))] [] h nx Q := by
  have ht := hG.1
  have di := d_in s
  refine ma_aload_n dX12_drawn_93 rfl ?_
  refine ma_getf dX12_drawn_94 fX12_112 (by first | assumption | exact ma_up_s _ _ _ | exact (ma_up_n (by decide)).trans (by assumption)) (by rfl) ?_
  refine ma_aload_n dX12_drawn_97 rfl ?_
  refine ma_getf dX12_drawn_98 fX12_90 (by first | assumption | exact ma_up_s _ _ _ | exact (ma_up_n (by decide)).trans (by assumption)) (by rfl) ?_
  refine ma_cS [_, _] dX12_drawn_101 wX12_lay lX12_168 tX12_lay (Nat.le_of_ble_eq_true rfl) ?_
  refine c_X12_lay h107 h100 (by decide) ?_
  refine ma_aload_n dX12_drawn_104 rfl ?_
  refine ma_aload_n dX12_drawn_105 rfl ?_
  refine ma_getf dX12_drawn_106 fX12_90 (by first | assumption | exact ma_up_s _ _ _ | exact (ma_up_n (by decide)).trans (by assumption)) (by rfl) ?_
  refine ma_iload dX12_drawn_109 rfl ?_
  refine ma_iload dX12_drawn_111 rfl ?_
  refine ma_iload dX12_drawn_113 rfl ?_
  refine ma_iload dX12_drawn_115 rfl ?_
  refine ma_cV [_, _, _, _, _] dX12_drawn_117 wX12_goMove lX12_440 iX12_goMove sX12_goMove rfl (by first | assumption | exact ma_up_s _ _ _ | exact (ma_up_n (by decide)).trans (by assumption)) (Nat.le_of_ble_eq_true rfl) ?_
  refine c_X12_goMove ((ma_up_n (by decide)).trans hM) (smo_n (by decide) (by decide) hS) (ma_up_s _ _ _) (by decide) (Or.inl (by decide)) hG hC hA di.1 (by unfold rg; omega) (by unfold rg; omega) (by unfold rg; omega) (t1 := t1) (G1 := G1) (fun a b => ?_) (fun a => ?_) (fun a E P b c h' I' m1 m2 => ?_) (fun a b h' I' A' m1 m2 m3 => ?_)
  · exact (one_ye ⟨a, b⟩ hone).1
  · obtain ⟨z2, z3, z4⟩ := one_no (fun z => by have q := z.1; unfold dpl at q; omega) hone
    subst z2 z3 z4
    rw [Int.add_zero] at KO
    refine ma_rif_ge 126 dX12_drawn_120 rfl (by decide) (fun c120 => absurd c120 (by decide)) (fun c120 => ?_)
    refine ma_goto 140 dX12_drawn_123 rfl ?_
    exact KO _ I ⟨(kp_up (by simp) (kp_rf _ _)), (ma_up_n (by decide)).trans hM, fun _ _ _ _ _ => rfl, smo_n (by decide) (by decide) hS, ⟨A, (ma_up_n (by decide)).trans h107, hA⟩, ⟨A, ma_up_s _ _ _⟩⟩ hs
  · obtain ⟨z2, z3, z4⟩ := one_no (fun z => rfe_un hG di.1 a b c z.2) hone
    subst z2 z3 z4
    rw [Int.add_zero] at KO
    have rb := RF_in (t := t1) (G := G1) (E := E) (P := P) (k := plc t1 (dk s) (dtt s) (du s) (dw s))
    have e107 : h' 107 = ci 33 A := (m1.1 107 (by decide)).trans ((ma_up_n (by decide)).trans h107)
    refine ma_rif_ge 126 dX12_drawn_120 rfl (by constructor <;> omega) (fun c120 => absurd c120 (by omega)) (fun c120 => ?_)
    refine ma_goto 140 dX12_drawn_123 rfl ?_
    exact KO h' I' ⟨kp_tr (kp_up (by simp) (kp_rf _ _)) (kp_m2 m1.1), m1.2.1, ki2_of m1.2.2.1, m1.2.2.2, ⟨A, e107, hA⟩, ⟨A, m2⟩⟩ ((m1.2.2.1 56 (by decide) (by decide) (by decide)).trans hs)
  · obtain ⟨z1, z4⟩ := one_ye ⟨a, b⟩ hone
    subst z4
    have e107 : h' 107 = ci 33 A := (m1.1 107 (by decide)).trans ((ma_up_n (by decide)).trans h107)
    have e73 := m1.2.1
    refine ma_rif_ge 126 dX12_drawn_120 rfl (by decide) (fun c120 => ?_) (fun c120 => absurd c120 (by decide))
    refine ma_aload_n dX12_drawn_126 rfl ?_
    refine ma_getf dX12_drawn_127 fX12_90 (by first | assumption | exact ma_up_s _ _ _ | exact (ma_up_n (by decide)).trans (by assumption)) (by rfl) ?_
    refine ma_aload_n dX12_drawn_130 rfl ?_
    refine ma_getf dX12_drawn_131 fX12_112 (by first | assumption | exact ma_up_s _ _ _ | exact (ma_up_n (by decide)).trans (by assumption)) (by rfl) ?_
    refine ma_cS [_, _] dX12_drawn_134 wX12_lay lX12_168 tX12_lay (Nat.le_of_ble_eq_true rfl) ?_
    refine c_X12_lay m2 e107 (by decide) ?_
    refine ma_iincN dX12_drawn_137 rfl (by decide) rfl ?_
    exact KO _ I' ⟨kp_up (by simp) (kp_tr (kp_up (by simp) (kp_rf _ _)) (kp_m2 m1.1)), (ma_up_n (by decide)).trans m1.2.1, ki2_of m1.2.2.1, smo_n (by decide) (by decide) m1.2.2.2, ⟨A', ma_up_s _ _ _, m3⟩, ⟨A', (ma_up_n (by decide)).trans m2⟩⟩ ((m1.2.2.1 56 (by decide) (by decide) (by decide)).trans hs)
theorem iu_iu {I : Nat → Int} {k : Nat} {x y : Int} : iu (iu I k x) k y = iu I k y := by
  funext j
  unfold iu
  split <;> rfl
set_option maxHeartbeats 2000000 in
theorem l_mD38 {nx d : Nat} {seed n t' e' : Int} {G' : Int → Int} {Q : Option ma_V → ma_H → Nat → Prop} (hn : 1 ≤ n ∧ n ≤ 12) : ∀ (r : Nat) (k e : Int) (h : ma_H) (I : Nat → Int) (s t : Int) (G : Int → Int) (x5 x6 x7 x8 : Option ma_V), 0 ≤ k → k + r = n → h 73 = co 12 (mo I) → SMO h → (∃ A, h 107 = ci 33 A ∧ AG t G A) → (∃ W, h 100 = ci 33 W) → VG t G → CN t G → I 56 = s → DRW r s t G e t' G' e' → (∀ h' I' x5 x6 x7 x8, MD h h' I I' t' G' → ma_J none mX12_drawn (d + 7) 0 0 146 [some (vr 73), some (vi seed), some (vi n), some (vi e'), some (vi n), x5, x6, x7, x8] [] h' nx Q) → ma_J none mX12_drawn (d + 7) 0 0 38 [some (vr 73), some (vi seed), some (vi n), some (vi e), some (vi k), x5, x6, x7, x8] [] h nx Q := by
  intro r
  induction r with
  | zero =>
    intro k e h I s t G x5 x6 x7 x8 k0 kr hM hS hA1 hW hG hC hs hd KO
    refine ma_iload dX12_drawn_38 rfl ?_
    refine ma_iload_n dX12_drawn_40 rfl ?_
    refine ma_rcmp_ge 146 dX12_drawn_41 rfl (by constructor <;> omega) (by constructor <;> omega) (fun c41 => ?_) (fun c41 => ?_)
    · -- 146
      have e4 : k = n := by omega
      subst e4
      obtain ⟨q1, q2, q3⟩ := hd
      subst q1 q2 q3
      exact KO h I _ _ _ _ ⟨kp_rf _ _, hM, fun _ _ _ _ _ => rfl, hS, hA1, hW⟩
    · -- 44
      exact absurd c41 (by omega)
  | succ r ih =>
    intro k e h I s t G x5 x6 x7 x8 k0 kr hM hS hA1 hW hG hC hs hd KO
    refine ma_iload dX12_drawn_38 rfl ?_
    refine ma_iload_n dX12_drawn_40 rfl ?_
    refine ma_rcmp_ge 146 dX12_drawn_41 rfl (by constructor <;> omega) (by constructor <;> omega) (fun c41 => ?_) (fun c41 => ?_)
    · -- 146
      exact absurd c41 (by omega)
    · -- 44
      obtain ⟨t1, G1, ok, hone, hdr⟩ := hd
      have vv := one_ok hG hC hone
      obtain ⟨A, h107, hA⟩ := hA1
      obtain ⟨W, h100⟩ := hW
      have di := d_in s
      have dk0 : dv (dnx s) 4 = dk s := rfl
      have kx : kp h (ma_up h 73 (co 12 (mo (iu I 56 (dend s))))) mv2 := kp_up (by simp) (kp_rf _ _)
      have KE := l_mD93 (d := d) (seed := seed) (n := n) (e := e) (k := k) (Q := Q) (nx := nx) (h := (ma_up h 73 (co 12 (mo (iu I 56 (dend s)))))) (ma_up_s _ _ _) (smo_n (by decide) (by decide) hS) ((ma_up_n (by decide)).trans h107) hA ((ma_up_n (by decide)).trans h100) hG hC (iu_s _ _ _) hone (fun h' I' m1 m2 => by
        refine ma_iincN dX12_drawn_140 rfl (by decide) rfl ?_
        refine ma_goto 38 dX12_drawn_143 rfl ?_
        exact ih (k + 1) (e + ok) h' I' _ _ _ _ _ _ _ (by omega) (by omega) m1.2.1 m1.2.2.2.1 m1.2.2.2.2.1 m1.2.2.2.2.2 vv.1 vv.2 m2 hdr (fun h'' I'' y5 y6 y7 y8 a1 => KO h'' I'' y5 y6 y7 y8 ⟨kp_tr (kp_tr kx m1.1) a1.1, a1.2.1, ki2_tr (ki2_tr (ki2_u (fun _ _ _ _ _ => rfl)) m1.2.2.1) a1.2.2.1, a1.2.2.2⟩))
      refine ma_aload_n dX12_drawn_44 rfl ?_
      refine ma_iconst dX12_drawn_45 ?_
      refine ma_cV [_] dX12_drawn_46 wX12_draw lX12_495 iX12_draw sX12_draw rfl (by first | exact ma_up_s _ _ _ | assumption) (Nat.le_of_ble_eq_true rfl) ?_
      refine c_X12_draw hM (by decide) ?_
      rw [hs]
      refine ma_istoreN dX12_drawn_49 (by decide) rfl ?_
      refine ma_aload_n dX12_drawn_51 rfl ?_
      refine ma_bipush dX12_drawn_52 ?_
      refine ma_cV [_] dX12_drawn_54 wX12_draw lX12_495 iX12_draw sX12_draw rfl (by first | exact ma_up_s _ _ _ | assumption) (Nat.le_of_ble_eq_true rfl) ?_
      refine c_X12_draw (ma_up_s _ _ _) (by decide) ?_
      rw [ma_up_up, iu_s, iu_iu]
      refine ma_istoreN dX12_drawn_57 (by decide) rfl ?_
      refine ma_iload dX12_drawn_59 rfl ?_
      refine ma_iconst dX12_drawn_61 ?_
      refine ma_rcmp_ne 69 dX12_drawn_62 rfl (by constructor <;> omega) (by decide) (fun c62 => ?_) (fun c62 => ?_)
      · -- 69
        refine ma_aload_n dX12_drawn_69 rfl ?_
        refine ma_iconst dX12_drawn_70 ?_
        refine ma_cV [_] dX12_drawn_71 wX12_draw lX12_495 iX12_draw sX12_draw rfl (by first | exact ma_up_s _ _ _ | assumption) (Nat.le_of_ble_eq_true rfl) ?_
        refine c_X12_draw (ma_up_s _ _ _) (by decide) ?_
        rw [ma_up_up, iu_s, iu_iu]
        refine ma_istoreN dX12_drawn_74 (by decide) rfl ?_
        refine ma_iload dX12_drawn_76 rfl ?_
        refine ma_iconst dX12_drawn_78 ?_
        refine ma_rcmp_ne 90 dX12_drawn_79 rfl (by constructor <;> omega) (by decide) (fun c79 => ?_) (fun c79 => ?_)
        · -- 90
          refine ma_iconst dX12_drawn_90 ?_
          refine ma_istoreN dX12_drawn_91 (by decide) rfl ?_
          have c62' : ¬ dk s = 2 := c62
          have c79' : ¬ dk s = 1 := c79
          have q := KE
          unfold dend dw du ds3 at q
          simp only [if_neg c62', if_neg c79'] at q
          exact q
        · -- 82
          refine ma_aload_n dX12_drawn_82 rfl ?_
          refine ma_iconst dX12_drawn_83 ?_
          refine ma_cV [_] dX12_drawn_84 wX12_draw lX12_495 iX12_draw sX12_draw rfl (by first | exact ma_up_s _ _ _ | assumption) (Nat.le_of_ble_eq_true rfl) ?_
          refine c_X12_draw (ma_up_s _ _ _) (by decide) ?_
          rw [ma_up_up, iu_s, iu_iu]
          refine ma_goto 91 dX12_drawn_87 rfl ?_
          refine ma_istoreN dX12_drawn_91 (by decide) rfl ?_
          have c62' : ¬ dk s = 2 := c62
          have c79' : dk s = 1 := c79
          have q := KE
          unfold dend dw du ds3 at q
          simp only [if_neg c62', if_pos c79'] at q
          exact q
      · -- 65
        refine ma_iconst dX12_drawn_65 ?_
        refine ma_goto 74 dX12_drawn_66 rfl ?_
        refine ma_istoreN dX12_drawn_74 (by decide) rfl ?_
        refine ma_iload dX12_drawn_76 rfl ?_
        refine ma_iconst dX12_drawn_78 ?_
        refine ma_rcmp_ne 90 dX12_drawn_79 rfl (by constructor <;> omega) (by decide) (fun c79 => ?_) (fun c79 => ?_)
        · -- 90
          refine ma_iconst dX12_drawn_90 ?_
          refine ma_istoreN dX12_drawn_91 (by decide) rfl ?_
          have c62' : dk s = 2 := c62
          have c79' : ¬ dk s = 1 := c79
          have q := KE
          unfold dend dw du ds3 at q
          simp only [if_pos c62', if_neg c79'] at q
          exact q
        · -- 82
          refine ma_aload_n dX12_drawn_82 rfl ?_
          refine ma_iconst dX12_drawn_83 ?_
          refine ma_cV [_] dX12_drawn_84 wX12_draw lX12_495 iX12_draw sX12_draw rfl (by first | exact ma_up_s _ _ _ | assumption) (Nat.le_of_ble_eq_true rfl) ?_
          refine c_X12_draw (ma_up_s _ _ _) (by decide) ?_
          rw [ma_up_up, iu_s, iu_iu]
          refine ma_goto 91 dX12_drawn_87 rfl ?_
          refine ma_istoreN dX12_drawn_91 (by decide) rfl ?_
          exfalso; omega
