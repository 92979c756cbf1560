section
variable {scr : Option (Nat × (Int → Int))} {M : ma_M} {d kc ks pc : Nat} {lv : List (Option ma_V)} {st : List ma_V} {h : ma_H} {nx : Nat} {Q : Option ma_V → ma_H → Nat → Prop}
theorem ma_iincK {i : Nat} {n x : Int} (z : Int) (hd : decode M.2.1 pc = .ok (.iinc i n, 3)) (hl : lv[i]? = some (some (vi x))) (hn : i < M.2.2.1) (hk : ma_nol lv i = true) (e : x + n = z) (K : ma_J scr M d kc ks (pc + 3) (lv.set i (some (vi z))) st h nx Q) : ma_J scr M d kc ks pc lv st h nx Q := by
  subst e
  exact ma_iincN hd hl hn hk K
theorem ma_iaddK {x y : Int} (z : Int) (hd : decode M.2.1 pc = .ok (.iadd, 1)) (e : x + y = z) (K : ma_J scr M d kc ks (pc + 1) lv (vi z :: st) h nx Q) : ma_J scr M d kc ks pc lv (vi y :: vi x :: st) h nx Q := by
  subst e
  exact ma_iadd hd K
theorem ma_isubK {x y : Int} (z : Int) (hd : decode M.2.1 pc = .ok (.isub, 1)) (e : x - y = z) (K : ma_J scr M d kc ks (pc + 1) lv (vi z :: st) h nx Q) : ma_J scr M d kc ks pc lv (vi y :: vi x :: st) h nx Q := by
  subst e
  exact ma_isub hd K
theorem ma_imulK {x y : Int} (z : Int) (hd : decode M.2.1 pc = .ok (.imul, 1)) (e : x * y = z) (K : ma_J scr M d kc ks (pc + 1) lv (vi z :: st) h nx Q) : ma_J scr M d kc ks pc lv (vi y :: vi x :: st) h nx Q := by
  subst e
  exact ma_imul hd K
end
/-- two new tets are glued: face y of the one to face x of the other -/
def fj (C : Int → Int) (a b x y : Int) : Int → Int := uf (uf C (4 * a + y) (32 * b + sx x y)) (4 * b + x) (32 * a + sx x y)
theorem c_join_fan {h : ma_H} {c e nx d : Nat} {u a b x y : Int} {C : Int → Int} {Q : Option ma_V → ma_H → Nat → Prop} (hc : h c = co 8 [vi u, vr e]) (he : h e = ci 32 C) (hce : c ≠ e) (ha : 0 ≤ a ∧ a < 8) (hb : 0 ≤ b ∧ b < 8) (hx : 0 ≤ x ∧ x < 4) (hy : 0 ≤ y ∧ y < 4) (K : Q none (ma_up h e (ci 32 (fj C a b x y))) nx) : ma_Ct mX8_join d 0 0 [vr c, vi (4 * a + y), vi b, vi (sx x y)] h nx Q := by
  have s := sx_ok hx.1 hx.2 hy.1 hy.2
  refine c_X8_join hc he (by constructor <;> omega) hb ⟨s.1, s.2.1⟩ ?_ hce
  rw [show (4 * a + y) % 4 = y by omega, show (4 * a + y) / 4 = a by omega, s.2.2.2.1, s.2.2.2.2.1]
  exact K
theorem c_X1_joinFan0 {h : ma_H} {c e nx d : Nat} {u s : Int} {C : Int → Int} {Q : Option ma_V → ma_H → Nat → Prop} (hc : h c = co 8 [vi u, vr e]) (he : h e = ci 32 C) (hce : c ≠ e) (hs : 0 ≤ s ∧ s + 2 < 8) (K : Q none (ma_up h e (ci 32 (fj (fj (fj C (s + 0) (s + 1) 1 2) (s + 0) (s + 2) 1 3) (s + 1) (s + 2) 2 3))) nx) : ma_Ct mX1_joinFan (d + 1) 0 0 [vr c, vi s, vi 0] h nx Q := by
  refine ma_Ct.of (by decide +kernel) (Nat.le_of_ble_eq_true rfl) ?_
  refine ma_iconst dX1_joinFan_0 ?_
  refine ma_istore_nN dX1_joinFan_1 (by decide) rfl ?_
  refine ma_iload_n dX1_joinFan_2 rfl ?_
  refine ma_iconst dX1_joinFan_3 ?_
  refine ma_rcmp_ge 99 dX1_joinFan_4 rfl (by decide) (by decide) (fun c4 => absurd c4 (by decide)) (fun c4 => ?_)
  refine ma_iload_n dX1_joinFan_7 rfl ?_
  refine ma_iconst dX1_joinFan_8 ?_
  refine ma_iaddK (1) dX1_joinFan_9 (by decide) ?_
  refine ma_istoreN dX1_joinFan_10 (by decide) rfl ?_
  show ma_J none mX1_joinFan (d + 1) 0 0 12 [some (vr c), some (vi s), some (vi 0), some (vi 0), some (vi 1), _, _] [] _ nx Q
  refine ma_iload dX1_joinFan_12 rfl ?_
  refine ma_iconst dX1_joinFan_14 ?_
  refine ma_rcmp_ge 93 dX1_joinFan_15 rfl (by decide) (by decide) (fun c15 => absurd c15 (by decide)) (fun c15 => ?_)
  refine ma_iload_n dX1_joinFan_18 rfl ?_
  refine ma_iload_n dX1_joinFan_19 rfl ?_
  refine ma_rcmp_eq 87 dX1_joinFan_20 rfl (by decide) (by decide) (fun c20 => ?_) (fun c20 => absurd c20 (by decide))
  refine ma_iincK (2) dX1_joinFan_87 rfl (by decide) rfl (by decide) ?_
  refine ma_goto 12 dX1_joinFan_90 rfl ?_
  show ma_J none mX1_joinFan (d + 1) 0 0 12 [some (vr c), some (vi s), some (vi 0), some (vi 0), some (vi 2), _, _] [] _ nx Q
  refine ma_iload dX1_joinFan_12 rfl ?_
  refine ma_iconst dX1_joinFan_14 ?_
  refine ma_rcmp_ge 93 dX1_joinFan_15 rfl (by decide) (by decide) (fun c15 => absurd c15 (by decide)) (fun c15 => ?_)
  refine ma_iload_n dX1_joinFan_18 rfl ?_
  refine ma_iload_n dX1_joinFan_19 rfl ?_
  refine ma_rcmp_eq 87 dX1_joinFan_20 rfl (by decide) (by decide) (fun c20 => ?_) (fun c20 => absurd c20 (by decide))
  refine ma_iincK (3) dX1_joinFan_87 rfl (by decide) rfl (by decide) ?_
  refine ma_goto 12 dX1_joinFan_90 rfl ?_
  show ma_J none mX1_joinFan (d + 1) 0 0 12 [some (vr c), some (vi s), some (vi 0), some (vi 0), some (vi 3), _, _] [] _ nx Q
  refine ma_iload dX1_joinFan_12 rfl ?_
  refine ma_iconst dX1_joinFan_14 ?_
  refine ma_rcmp_ge 93 dX1_joinFan_15 rfl (by decide) (by decide) (fun c15 => absurd c15 (by decide)) (fun c15 => ?_)
  refine ma_iload_n dX1_joinFan_18 rfl ?_
  refine ma_iload_n dX1_joinFan_19 rfl ?_
  refine ma_rcmp_eq 87 dX1_joinFan_20 rfl (by decide) (by decide) (fun c20 => ?_) (fun c20 => absurd c20 (by decide))
  refine ma_iincK (4) dX1_joinFan_87 rfl (by decide) rfl (by decide) ?_
  refine ma_goto 12 dX1_joinFan_90 rfl ?_
  show ma_J none mX1_joinFan (d + 1) 0 0 12 [some (vr c), some (vi s), some (vi 0), some (vi 0), some (vi 4), _, _] [] _ nx Q
  refine ma_iload dX1_joinFan_12 rfl ?_
  refine ma_iconst dX1_joinFan_14 ?_
  refine ma_rcmp_ge 93 dX1_joinFan_15 rfl (by decide) (by decide) (fun c15 => ?_) (fun c15 => absurd c15 (by decide))
  refine ma_iincK (1) dX1_joinFan_93 rfl (by decide) rfl (by decide) ?_
  refine ma_goto 2 dX1_joinFan_96 rfl ?_
  refine ma_iload_n dX1_joinFan_2 rfl ?_
  refine ma_iconst dX1_joinFan_3 ?_
  refine ma_rcmp_ge 99 dX1_joinFan_4 rfl (by decide) (by decide) (fun c4 => absurd c4 (by decide)) (fun c4 => ?_)
  refine ma_iload_n dX1_joinFan_7 rfl ?_
  refine ma_iconst dX1_joinFan_8 ?_
  refine ma_iaddK (2) dX1_joinFan_9 (by decide) ?_
  refine ma_istoreN dX1_joinFan_10 (by decide) rfl ?_
  show ma_J none mX1_joinFan (d + 1) 0 0 12 [some (vr c), some (vi s), some (vi 0), some (vi 1), some (vi 2), _, _] [] _ nx Q
  refine ma_iload dX1_joinFan_12 rfl ?_
  refine ma_iconst dX1_joinFan_14 ?_
  refine ma_rcmp_ge 93 dX1_joinFan_15 rfl (by decide) (by decide) (fun c15 => absurd c15 (by decide)) (fun c15 => ?_)
  refine ma_iload_n dX1_joinFan_18 rfl ?_
  refine ma_iload_n dX1_joinFan_19 rfl ?_
  refine ma_rcmp_eq 87 dX1_joinFan_20 rfl (by decide) (by decide) (fun c20 => absurd c20 (by decide)) (fun c20 => ?_)
  refine ma_iload dX1_joinFan_23 rfl ?_
  refine ma_iload_n dX1_joinFan_25 rfl ?_
  refine ma_rcmp_eq 87 dX1_joinFan_26 rfl (by decide) (by decide) (fun c26 => absurd c26 (by decide)) (fun c26 => ?_)
  refine ma_iload_n dX1_joinFan_29 rfl ?_
  refine ma_iload_n dX1_joinFan_30 rfl ?_
  refine ma_iload_n dX1_joinFan_31 rfl ?_
  refine ma_rcmp_le 41 dX1_joinFan_32 rfl (by decide) (by decide) (fun c32 => absurd c32 (by decide)) (fun c32 => ?_)
  refine ma_iload_n dX1_joinFan_35 rfl ?_
  refine ma_iconst dX1_joinFan_36 ?_
  refine ma_isubK (0) dX1_joinFan_37 (by decide) ?_
  refine ma_goto 42 dX1_joinFan_38 rfl ?_
  refine ma_iadd dX1_joinFan_42 ?_
  refine ma_istoreN dX1_joinFan_43 (by decide) rfl ?_
  refine ma_iload_n dX1_joinFan_45 rfl ?_
  refine ma_iload dX1_joinFan_46 rfl ?_
  refine ma_iload_n dX1_joinFan_48 rfl ?_
  refine ma_rcmp_le 59 dX1_joinFan_49 rfl (by decide) (by decide) (fun c49 => absurd c49 (by decide)) (fun c49 => ?_)
  refine ma_iload dX1_joinFan_52 rfl ?_
  refine ma_iconst dX1_joinFan_54 ?_
  refine ma_isubK (1) dX1_joinFan_55 (by decide) ?_
  refine ma_goto 61 dX1_joinFan_56 rfl ?_
  refine ma_iadd dX1_joinFan_61 ?_
  refine ma_istoreN dX1_joinFan_62 (by decide) rfl ?_
  refine ma_aload_n dX1_joinFan_64 rfl ?_
  refine ma_iconst dX1_joinFan_65 ?_
  refine ma_iload dX1_joinFan_66 rfl ?_
  refine ma_imul dX1_joinFan_68 ?_
  refine ma_iload dX1_joinFan_69 rfl ?_
  refine ma_iadd dX1_joinFan_71 ?_
  refine ma_iload dX1_joinFan_72 rfl ?_
  refine ma_getsN (j := 3) dX1_joinFan_74 (by decide) gX1_173 ?_
  refine ma_iconst dX1_joinFan_77 ?_
  refine ma_iload_n dX1_joinFan_78 rfl ?_
  refine ma_imulK (4) dX1_joinFan_79 (by decide) ?_
  refine ma_iload dX1_joinFan_80 rfl ?_
  refine ma_iaddK (6) dX1_joinFan_82 (by decide) ?_
  refine ma_tald (j := 3) (n := 16) dX1_joinFan_83 (by decide) tl_3 (by omega) (by omega) (by decide) ?_
  refine ma_cV [_, _, _] dX1_joinFan_84 wX8_join lX1_176 iX8_join sX8_join rfl (by first | exact ma_up_s _ _ _ | assumption | exact (ma_up_n (by assumption)).trans (by assumption)) (Nat.le_of_ble_eq_true rfl) ?_
  refine c_join_fan (x := 1) (y := 2) (by first | assumption | exact (ma_up_n (by assumption)).trans (by assumption)) (by first | exact ma_up_s _ _ _ | assumption) hce (by constructor <;> omega) (by constructor <;> omega) (by decide) (by decide) ?_
  try rw [ma_up_up]
  refine ma_iincK (3) dX1_joinFan_87 rfl (by decide) rfl (by decide) ?_
  refine ma_goto 12 dX1_joinFan_90 rfl ?_
  show ma_J none mX1_joinFan (d + 1) 0 0 12 [some (vr c), some (vi s), some (vi 0), some (vi 1), some (vi 3), _, _] [] _ nx Q
  refine ma_iload dX1_joinFan_12 rfl ?_
  refine ma_iconst dX1_joinFan_14 ?_
  refine ma_rcmp_ge 93 dX1_joinFan_15 rfl (by decide) (by decide) (fun c15 => absurd c15 (by decide)) (fun c15 => ?_)
  refine ma_iload_n dX1_joinFan_18 rfl ?_
  refine ma_iload_n dX1_joinFan_19 rfl ?_
  refine ma_rcmp_eq 87 dX1_joinFan_20 rfl (by decide) (by decide) (fun c20 => absurd c20 (by decide)) (fun c20 => ?_)
  refine ma_iload dX1_joinFan_23 rfl ?_
  refine ma_iload_n dX1_joinFan_25 rfl ?_
  refine ma_rcmp_eq 87 dX1_joinFan_26 rfl (by decide) (by decide) (fun c26 => absurd c26 (by decide)) (fun c26 => ?_)
  refine ma_iload_n dX1_joinFan_29 rfl ?_
  refine ma_iload_n dX1_joinFan_30 rfl ?_
  refine ma_iload_n dX1_joinFan_31 rfl ?_
  refine ma_rcmp_le 41 dX1_joinFan_32 rfl (by decide) (by decide) (fun c32 => absurd c32 (by decide)) (fun c32 => ?_)
  refine ma_iload_n dX1_joinFan_35 rfl ?_
  refine ma_iconst dX1_joinFan_36 ?_
  refine ma_isubK (0) dX1_joinFan_37 (by decide) ?_
  refine ma_goto 42 dX1_joinFan_38 rfl ?_
  refine ma_iadd dX1_joinFan_42 ?_
  refine ma_istoreN dX1_joinFan_43 (by decide) rfl ?_
  refine ma_iload_n dX1_joinFan_45 rfl ?_
  refine ma_iload dX1_joinFan_46 rfl ?_
  refine ma_iload_n dX1_joinFan_48 rfl ?_
  refine ma_rcmp_le 59 dX1_joinFan_49 rfl (by decide) (by decide) (fun c49 => absurd c49 (by decide)) (fun c49 => ?_)
  refine ma_iload dX1_joinFan_52 rfl ?_
  refine ma_iconst dX1_joinFan_54 ?_
  refine ma_isubK (2) dX1_joinFan_55 (by decide) ?_
  refine ma_goto 61 dX1_joinFan_56 rfl ?_
  refine ma_iadd dX1_joinFan_61 ?_
  refine ma_istoreN dX1_joinFan_62 (by decide) rfl ?_
  refine ma_aload_n dX1_joinFan_64 rfl ?_
  refine ma_iconst dX1_joinFan_65 ?_
  refine ma_iload dX1_joinFan_66 rfl ?_
  refine ma_imul dX1_joinFan_68 ?_
  refine ma_iload dX1_joinFan_69 rfl ?_
  refine ma_iadd dX1_joinFan_71 ?_
  refine ma_iload dX1_joinFan_72 rfl ?_
  refine ma_getsN (j := 3) dX1_joinFan_74 (by decide) gX1_173 ?_
  refine ma_iconst dX1_joinFan_77 ?_
  refine ma_iload_n dX1_joinFan_78 rfl ?_
  refine ma_imulK (4) dX1_joinFan_79 (by decide) ?_
  refine ma_iload dX1_joinFan_80 rfl ?_
  refine ma_iaddK (7) dX1_joinFan_82 (by decide) ?_
  refine ma_tald (j := 3) (n := 16) dX1_joinFan_83 (by decide) tl_3 (by omega) (by omega) (by decide) ?_
  refine ma_cV [_, _, _] dX1_joinFan_84 wX8_join lX1_176 iX8_join sX8_join rfl (by first | exact ma_up_s _ _ _ | assumption | exact (ma_up_n (by assumption)).trans (by assumption)) (Nat.le_of_ble_eq_true rfl) ?_
  refine c_join_fan (x := 1) (y := 3) (by first | assumption | exact (ma_up_n (by assumption)).trans (by assumption)) (by first | exact ma_up_s _ _ _ | assumption) hce (by constructor <;> omega) (by constructor <;> omega) (by decide) (by decide) ?_
  try rw [ma_up_up]
  refine ma_iincK (4) dX1_joinFan_87 rfl (by decide) rfl (by decide) ?_
  refine ma_goto 12 dX1_joinFan_90 rfl ?_
  show ma_J none mX1_joinFan (d + 1) 0 0 12 [some (vr c), some (vi s), some (vi 0), some (vi 1), some (vi 4), _, _] [] _ nx Q
  refine ma_iload dX1_joinFan_12 rfl ?_
  refine ma_iconst dX1_joinFan_14 ?_
  refine ma_rcmp_ge 93 dX1_joinFan_15 rfl (by decide) (by decide) (fun c15 => ?_) (fun c15 => absurd c15 (by decide))
  refine ma_iincK (2) dX1_joinFan_93 rfl (by decide) rfl (by decide) ?_
  refine ma_goto 2 dX1_joinFan_96 rfl ?_
  refine ma_iload_n dX1_joinFan_2 rfl ?_
  refine ma_iconst dX1_joinFan_3 ?_
  refine ma_rcmp_ge 99 dX1_joinFan_4 rfl (by decide) (by decide) (fun c4 => absurd c4 (by decide)) (fun c4 => ?_)
  refine ma_iload_n dX1_joinFan_7 rfl ?_
  refine ma_iconst dX1_joinFan_8 ?_
  refine ma_iaddK (3) dX1_joinFan_9 (by decide) ?_
  refine ma_istoreN dX1_joinFan_10 (by decide) rfl ?_
  show ma_J none mX1_joinFan (d + 1) 0 0 12 [some (vr c), some (vi s), some (vi 0), some (vi 2), some (vi 3), _, _] [] _ nx Q
  refine ma_iload dX1_joinFan_12 rfl ?_
  refine ma_iconst dX1_joinFan_14 ?_
  refine ma_rcmp_ge 93 dX1_joinFan_15 rfl (by decide) (by decide) (fun c15 => absurd c15 (by decide)) (fun c15 => ?_)
  refine ma_iload_n dX1_joinFan_18 rfl ?_
  refine ma_iload_n dX1_joinFan_19 rfl ?_
  refine ma_rcmp_eq 87 dX1_joinFan_20 rfl (by decide) (by decide) (fun c20 => absurd c20 (by decide)) (fun c20 => ?_)
  refine ma_iload dX1_joinFan_23 rfl ?_
  refine ma_iload_n dX1_joinFan_25 rfl ?_
  refine ma_rcmp_eq 87 dX1_joinFan_26 rfl (by decide) (by decide) (fun c26 => absurd c26 (by decide)) (fun c26 => ?_)
  refine ma_iload_n dX1_joinFan_29 rfl ?_
  refine ma_iload_n dX1_joinFan_30 rfl ?_
  refine ma_iload_n dX1_joinFan_31 rfl ?_
  refine ma_rcmp_le 41 dX1_joinFan_32 rfl (by decide) (by decide) (fun c32 => absurd c32 (by decide)) (fun c32 => ?_)
  refine ma_iload_n dX1_joinFan_35 rfl ?_
  refine ma_iconst dX1_joinFan_36 ?_
  refine ma_isubK (1) dX1_joinFan_37 (by decide) ?_
  refine ma_goto 42 dX1_joinFan_38 rfl ?_
  refine ma_iadd dX1_joinFan_42 ?_
  refine ma_istoreN dX1_joinFan_43 (by decide) rfl ?_
  refine ma_iload_n dX1_joinFan_45 rfl ?_
  refine ma_iload dX1_joinFan_46 rfl ?_
  refine ma_iload_n dX1_joinFan_48 rfl ?_
  refine ma_rcmp_le 59 dX1_joinFan_49 rfl (by decide) (by decide) (fun c49 => absurd c49 (by decide)) (fun c49 => ?_)
  refine ma_iload dX1_joinFan_52 rfl ?_
  refine ma_iconst dX1_joinFan_54 ?_
  refine ma_isubK (2) dX1_joinFan_55 (by decide) ?_
  refine ma_goto 61 dX1_joinFan_56 rfl ?_
  refine ma_iadd dX1_joinFan_61 ?_
  refine ma_istoreN dX1_joinFan_62 (by decide) rfl ?_
  refine ma_aload_n dX1_joinFan_64 rfl ?_
  refine ma_iconst dX1_joinFan_65 ?_
  refine ma_iload dX1_joinFan_66 rfl ?_
  refine ma_imul dX1_joinFan_68 ?_
  refine ma_iload dX1_joinFan_69 rfl ?_
  refine ma_iadd dX1_joinFan_71 ?_
  refine ma_iload dX1_joinFan_72 rfl ?_
  refine ma_getsN (j := 3) dX1_joinFan_74 (by decide) gX1_173 ?_
  refine ma_iconst dX1_joinFan_77 ?_
  refine ma_iload_n dX1_joinFan_78 rfl ?_
  refine ma_imulK (8) dX1_joinFan_79 (by decide) ?_
  refine ma_iload dX1_joinFan_80 rfl ?_
  refine ma_iaddK (11) dX1_joinFan_82 (by decide) ?_
  refine ma_tald (j := 3) (n := 16) dX1_joinFan_83 (by decide) tl_3 (by omega) (by omega) (by decide) ?_
  refine ma_cV [_, _, _] dX1_joinFan_84 wX8_join lX1_176 iX8_join sX8_join rfl (by first | exact ma_up_s _ _ _ | assumption | exact (ma_up_n (by assumption)).trans (by assumption)) (Nat.le_of_ble_eq_true rfl) ?_
  refine c_join_fan (x := 2) (y := 3) (by first | assumption | exact (ma_up_n (by assumption)).trans (by assumption)) (by first | exact ma_up_s _ _ _ | assumption) hce (by constructor <;> omega) (by constructor <;> omega) (by decide) (by decide) ?_
  try rw [ma_up_up]
  refine ma_iincK (4) dX1_joinFan_87 rfl (by decide) rfl (by decide) ?_
  refine ma_goto 12 dX1_joinFan_90 rfl ?_
  show ma_J none mX1_joinFan (d + 1) 0 0 12 [some (vr c), some (vi s), some (vi 0), some (vi 2), some (vi 4), _, _] [] _ nx Q
  refine ma_iload dX1_joinFan_12 rfl ?_
  refine ma_iconst dX1_joinFan_14 ?_
  refine ma_rcmp_ge 93 dX1_joinFan_15 rfl (by decide) (by decide) (fun c15 => ?_) (fun c15 => absurd c15 (by decide))
  refine ma_iincK (3) dX1_joinFan_93 rfl (by decide) rfl (by decide) ?_
  refine ma_goto 2 dX1_joinFan_96 rfl ?_
  refine ma_iload_n dX1_joinFan_2 rfl ?_
  refine ma_iconst dX1_joinFan_3 ?_
  refine ma_rcmp_ge 99 dX1_joinFan_4 rfl (by decide) (by decide) (fun c4 => absurd c4 (by decide)) (fun c4 => ?_)
  refine ma_iload_n dX1_joinFan_7 rfl ?_
  refine ma_iconst dX1_joinFan_8 ?_
  refine ma_iaddK (4) dX1_joinFan_9 (by decide) ?_
  refine ma_istoreN dX1_joinFan_10 (by decide) rfl ?_
  show ma_J none mX1_joinFan (d + 1) 0 0 12 [some (vr c), some (vi s), some (vi 0), some (vi 3), some (vi 4), _, _] [] _ nx Q
  refine ma_iload dX1_joinFan_12 rfl ?_
  refine ma_iconst dX1_joinFan_14 ?_
  refine ma_rcmp_ge 93 dX1_joinFan_15 rfl (by decide) (by decide) (fun c15 => ?_) (fun c15 => absurd c15 (by decide))
  refine ma_iincK (4) dX1_joinFan_93 rfl (by decide) rfl (by decide) ?_
  refine ma_goto 2 dX1_joinFan_96 rfl ?_
  refine ma_iload_n dX1_joinFan_2 rfl ?_
  refine ma_iconst dX1_joinFan_3 ?_
  refine ma_rcmp_ge 99 dX1_joinFan_4 rfl (by decide) (by decide) (fun c4 => ?_) (fun c4 => absurd c4 (by decide))
  exact ma_vret dX1_joinFan_99 rfl K
theorem c_X1_joinFan1 {h : ma_H} {c e nx d : Nat} {u s : Int} {C : Int → Int} {Q : Option ma_V → ma_H → Nat → Prop} (hc : h c = co 8 [vi u, vr e]) (he : h e = ci 32 C) (hce : c ≠ e) (hs : 0 ≤ s ∧ s + 2 < 8) (K : Q none (ma_up h e (ci 32 (fj (fj (fj C (s + 0) (s + 1) 0 2) (s + 0) (s + 2) 0 3) (s + 1) (s + 2) 2 3))) nx) : ma_Ct mX1_joinFan (d + 1) 0 0 [vr c, vi s, vi 1] h nx Q := by
  refine ma_Ct.of (by decide +kernel) (Nat.le_of_ble_eq_true rfl) ?_
  refine ma_iconst dX1_joinFan_0 ?_
  refine ma_istore_nN dX1_joinFan_1 (by decide) rfl ?_
  refine ma_iload_n dX1_joinFan_2 rfl ?_
  refine ma_iconst dX1_joinFan_3 ?_
  refine ma_rcmp_ge 99 dX1_joinFan_4 rfl (by decide) (by decide) (fun c4 => absurd c4 (by decide)) (fun c4 => ?_)
  refine ma_iload_n dX1_joinFan_7 rfl ?_
  refine ma_iconst dX1_joinFan_8 ?_
  refine ma_iaddK (1) dX1_joinFan_9 (by decide) ?_
  refine ma_istoreN dX1_joinFan_10 (by decide) rfl ?_
  show ma_J none mX1_joinFan (d + 1) 0 0 12 [some (vr c), some (vi s), some (vi 1), some (vi 0), some (vi 1), _, _] [] _ nx Q
  refine ma_iload dX1_joinFan_12 rfl ?_
  refine ma_iconst dX1_joinFan_14 ?_
  refine ma_rcmp_ge 93 dX1_joinFan_15 rfl (by decide) (by decide) (fun c15 => absurd c15 (by decide)) (fun c15 => ?_)
  refine ma_iload_n dX1_joinFan_18 rfl ?_
  refine ma_iload_n dX1_joinFan_19 rfl ?_
  refine ma_rcmp_eq 87 dX1_joinFan_20 rfl (by decide) (by decide) (fun c20 => absurd c20 (by decide)) (fun c20 => ?_)
  refine ma_iload dX1_joinFan_23 rfl ?_
  refine ma_iload_n dX1_joinFan_25 rfl ?_
  refine ma_rcmp_eq 87 dX1_joinFan_26 rfl (by decide) (by decide) (fun c26 => ?_) (fun c26 => absurd c26 (by decide))
  refine ma_iincK (2) dX1_joinFan_87 rfl (by decide) rfl (by decide) ?_
  refine ma_goto 12 dX1_joinFan_90 rfl ?_
  show ma_J none mX1_joinFan (d + 1) 0 0 12 [some (vr c), some (vi s), some (vi 1), some (vi 0), some (vi 2), _, _] [] _ nx Q
  refine ma_iload dX1_joinFan_12 rfl ?_
  refine ma_iconst dX1_joinFan_14 ?_
  refine ma_rcmp_ge 93 dX1_joinFan_15 rfl (by decide) (by decide) (fun c15 => absurd c15 (by decide)) (fun c15 => ?_)
  refine ma_iload_n dX1_joinFan_18 rfl ?_
  refine ma_iload_n dX1_joinFan_19 rfl ?_
  refine ma_rcmp_eq 87 dX1_joinFan_20 rfl (by decide) (by decide) (fun c20 => absurd c20 (by decide)) (fun c20 => ?_)
  refine ma_iload dX1_joinFan_23 rfl ?_
  refine ma_iload_n dX1_joinFan_25 rfl ?_
  refine ma_rcmp_eq 87 dX1_joinFan_26 rfl (by decide) (by decide) (fun c26 => absurd c26 (by decide)) (fun c26 => ?_)
  refine ma_iload_n dX1_joinFan_29 rfl ?_
  refine ma_iload_n dX1_joinFan_30 rfl ?_
  refine ma_iload_n dX1_joinFan_31 rfl ?_
  refine ma_rcmp_le 41 dX1_joinFan_32 rfl (by decide) (by decide) (fun c32 => ?_) (fun c32 => absurd c32 (by decide))
  refine ma_iload_n dX1_joinFan_41 rfl ?_
  refine ma_iadd dX1_joinFan_42 ?_
  refine ma_istoreN dX1_joinFan_43 (by decide) rfl ?_
  refine ma_iload_n dX1_joinFan_45 rfl ?_
  refine ma_iload dX1_joinFan_46 rfl ?_
  refine ma_iload_n dX1_joinFan_48 rfl ?_
  refine ma_rcmp_le 59 dX1_joinFan_49 rfl (by decide) (by decide) (fun c49 => absurd c49 (by decide)) (fun c49 => ?_)
  refine ma_iload dX1_joinFan_52 rfl ?_
  refine ma_iconst dX1_joinFan_54 ?_
  refine ma_isubK (1) dX1_joinFan_55 (by decide) ?_
  refine ma_goto 61 dX1_joinFan_56 rfl ?_
  refine ma_iadd dX1_joinFan_61 ?_
  refine ma_istoreN dX1_joinFan_62 (by decide) rfl ?_
  refine ma_aload_n dX1_joinFan_64 rfl ?_
  refine ma_iconst dX1_joinFan_65 ?_
  refine ma_iload dX1_joinFan_66 rfl ?_
  refine ma_imul dX1_joinFan_68 ?_
  refine ma_iload dX1_joinFan_69 rfl ?_
  refine ma_iadd dX1_joinFan_71 ?_
  refine ma_iload dX1_joinFan_72 rfl ?_
  refine ma_getsN (j := 3) dX1_joinFan_74 (by decide) gX1_173 ?_
  refine ma_iconst dX1_joinFan_77 ?_
  refine ma_iload_n dX1_joinFan_78 rfl ?_
  refine ma_imulK (0) dX1_joinFan_79 (by decide) ?_
  refine ma_iload dX1_joinFan_80 rfl ?_
  refine ma_iaddK (2) dX1_joinFan_82 (by decide) ?_
  refine ma_tald (j := 3) (n := 16) dX1_joinFan_83 (by decide) tl_3 (by omega) (by omega) (by decide) ?_
  refine ma_cV [_, _, _] dX1_joinFan_84 wX8_join lX1_176 iX8_join sX8_join rfl (by first | exact ma_up_s _ _ _ | assumption | exact (ma_up_n (by assumption)).trans (by assumption)) (Nat.le_of_ble_eq_true rfl) ?_
  refine c_join_fan (x := 0) (y := 2) (by first | assumption | exact (ma_up_n (by assumption)).trans (by assumption)) (by first | exact ma_up_s _ _ _ | assumption) hce (by constructor <;> omega) (by constructor <;> omega) (by decide) (by decide) ?_
  try rw [ma_up_up]
  refine ma_iincK (3) dX1_joinFan_87 rfl (by decide) rfl (by decide) ?_
  refine ma_goto 12 dX1_joinFan_90 rfl ?_
  show ma_J none mX1_joinFan (d + 1) 0 0 12 [some (vr c), some (vi s), some (vi 1), some (vi 0), some (vi 3), _, _] [] _ nx Q
  refine ma_iload dX1_joinFan_12 rfl ?_
  refine ma_iconst dX1_joinFan_14 ?_
  refine ma_rcmp_ge 93 dX1_joinFan_15 rfl (by decide) (by decide) (fun c15 => absurd c15 (by decide)) (fun c15 => ?_)
  refine ma_iload_n dX1_joinFan_18 rfl ?_
  refine ma_iload_n dX1_joinFan_19 rfl ?_
  refine ma_rcmp_eq 87 dX1_joinFan_20 rfl (by decide) (by decide) (fun c20 => absurd c20 (by decide)) (fun c20 => ?_)
  refine ma_iload dX1_joinFan_23 rfl ?_
  refine ma_iload_n dX1_joinFan_25 rfl ?_
  refine ma_rcmp_eq 87 dX1_joinFan_26 rfl (by decide) (by decide) (fun c26 => absurd c26 (by decide)) (fun c26 => ?_)
  refine ma_iload_n dX1_joinFan_29 rfl ?_
  refine ma_iload_n dX1_joinFan_30 rfl ?_
  refine ma_iload_n dX1_joinFan_31 rfl ?_
  refine ma_rcmp_le 41 dX1_joinFan_32 rfl (by decide) (by decide) (fun c32 => ?_) (fun c32 => absurd c32 (by decide))
  refine ma_iload_n dX1_joinFan_41 rfl ?_
  refine ma_iadd dX1_joinFan_42 ?_
  refine ma_istoreN dX1_joinFan_43 (by decide) rfl ?_
  refine ma_iload_n dX1_joinFan_45 rfl ?_
  refine ma_iload dX1_joinFan_46 rfl ?_
  refine ma_iload_n dX1_joinFan_48 rfl ?_
  refine ma_rcmp_le 59 dX1_joinFan_49 rfl (by decide) (by decide) (fun c49 => absurd c49 (by decide)) (fun c49 => ?_)
  refine ma_iload dX1_joinFan_52 rfl ?_
  refine ma_iconst dX1_joinFan_54 ?_
  refine ma_isubK (2) dX1_joinFan_55 (by decide) ?_
  refine ma_goto 61 dX1_joinFan_56 rfl ?_
  refine ma_iadd dX1_joinFan_61 ?_
  refine ma_istoreN dX1_joinFan_62 (by decide) rfl ?_
  refine ma_aload_n dX1_joinFan_64 rfl ?_
  refine ma_iconst dX1_joinFan_65 ?_
  refine ma_iload dX1_joinFan_66 rfl ?_
  refine ma_imul dX1_joinFan_68 ?_
  refine ma_iload dX1_joinFan_69 rfl ?_
  refine ma_iadd dX1_joinFan_71 ?_
  refine ma_iload dX1_joinFan_72 rfl ?_
  refine ma_getsN (j := 3) dX1_joinFan_74 (by decide) gX1_173 ?_
  refine ma_iconst dX1_joinFan_77 ?_
  refine ma_iload_n dX1_joinFan_78 rfl ?_
  refine ma_imulK (0) dX1_joinFan_79 (by decide) ?_
  refine ma_iload dX1_joinFan_80 rfl ?_
  refine ma_iaddK (3) dX1_joinFan_82 (by decide) ?_
  refine ma_tald (j := 3) (n := 16) dX1_joinFan_83 (by decide) tl_3 (by omega) (by omega) (by decide) ?_
  refine ma_cV [_, _, _] dX1_joinFan_84 wX8_join lX1_176 iX8_join sX8_join rfl (by first | exact ma_up_s _ _ _ | assumption | exact (ma_up_n (by assumption)).trans (by assumption)) (Nat.le_of_ble_eq_true rfl) ?_
  refine c_join_fan (x := 0) (y := 3) (by first | assumption | exact (ma_up_n (by assumption)).trans (by assumption)) (by first | exact ma_up_s _ _ _ | assumption) hce (by constructor <;> omega) (by constructor <;> omega) (by decide) (by decide) ?_
  try rw [ma_up_up]
  refine ma_iincK (4) dX1_joinFan_87 rfl (by decide) rfl (by decide) ?_
  refine ma_goto 12 dX1_joinFan_90 rfl ?_
  show ma_J none mX1_joinFan (d + 1) 0 0 12 [some (vr c), some (vi s), some (vi 1), some (vi 0), some (vi 4), _, _] [] _ nx Q
  refine ma_iload dX1_joinFan_12 rfl ?_
  refine ma_iconst dX1_joinFan_14 ?_
  refine ma_rcmp_ge 93 dX1_joinFan_15 rfl (by decide) (by decide) (fun c15 => ?_) (fun c15 => absurd c15 (by decide))
  refine ma_iincK (1) dX1_joinFan_93 rfl (by decide) rfl (by decide) ?_
  refine ma_goto 2 dX1_joinFan_96 rfl ?_
  refine ma_iload_n dX1_joinFan_2 rfl ?_
  refine ma_iconst dX1_joinFan_3 ?_
  refine ma_rcmp_ge 99 dX1_joinFan_4 rfl (by decide) (by decide) (fun c4 => absurd c4 (by decide)) (fun c4 => ?_)
  refine ma_iload_n dX1_joinFan_7 rfl ?_
  refine ma_iconst dX1_joinFan_8 ?_
  refine ma_iaddK (2) dX1_joinFan_9 (by decide) ?_
  refine ma_istoreN dX1_joinFan_10 (by decide) rfl ?_
  show ma_J none mX1_joinFan (d + 1) 0 0 12 [some (vr c), some (vi s), some (vi 1), some (vi 1), some (vi 2), _, _] [] _ nx Q
  refine ma_iload dX1_joinFan_12 rfl ?_
  refine ma_iconst dX1_joinFan_14 ?_
  refine ma_rcmp_ge 93 dX1_joinFan_15 rfl (by decide) (by decide) (fun c15 => absurd c15 (by decide)) (fun c15 => ?_)
  refine ma_iload_n dX1_joinFan_18 rfl ?_
  refine ma_iload_n dX1_joinFan_19 rfl ?_
  refine ma_rcmp_eq 87 dX1_joinFan_20 rfl (by decide) (by decide) (fun c20 => ?_) (fun c20 => absurd c20 (by decide))
  refine ma_iincK (3) dX1_joinFan_87 rfl (by decide) rfl (by decide) ?_
  refine ma_goto 12 dX1_joinFan_90 rfl ?_
  show ma_J none mX1_joinFan (d + 1) 0 0 12 [some (vr c), some (vi s), some (vi 1), some (vi 1), some (vi 3), _, _] [] _ nx Q
  refine ma_iload dX1_joinFan_12 rfl ?_
  refine ma_iconst dX1_joinFan_14 ?_
  refine ma_rcmp_ge 93 dX1_joinFan_15 rfl (by decide) (by decide) (fun c15 => absurd c15 (by decide)) (fun c15 => ?_)
  refine ma_iload_n dX1_joinFan_18 rfl ?_
  refine ma_iload_n dX1_joinFan_19 rfl ?_
  refine ma_rcmp_eq 87 dX1_joinFan_20 rfl (by decide) (by decide) (fun c20 => ?_) (fun c20 => absurd c20 (by decide))
  refine ma_iincK (4) dX1_joinFan_87 rfl (by decide) rfl (by decide) ?_
  refine ma_goto 12 dX1_joinFan_90 rfl ?_
  show ma_J none mX1_joinFan (d + 1) 0 0 12 [some (vr c), some (vi s), some (vi 1), some (vi 1), some (vi 4), _, _] [] _ nx Q
  refine ma_iload dX1_joinFan_12 rfl ?_
  refine ma_iconst dX1_joinFan_14 ?_
  refine ma_rcmp_ge 93 dX1_joinFan_15 rfl (by decide) (by decide) (fun c15 => ?_) (fun c15 => absurd c15 (by decide))
  refine ma_iincK (2) dX1_joinFan_93 rfl (by decide) rfl (by decide) ?_
  refine ma_goto 2 dX1_joinFan_96 rfl ?_
  refine ma_iload_n dX1_joinFan_2 rfl ?_
  refine ma_iconst dX1_joinFan_3 ?_
  refine ma_rcmp_ge 99 dX1_joinFan_4 rfl (by decide) (by decide) (fun c4 => absurd c4 (by decide)) (fun c4 => ?_)
  refine ma_iload_n dX1_joinFan_7 rfl ?_
  refine ma_iconst dX1_joinFan_8 ?_
  refine ma_iaddK (3) dX1_joinFan_9 (by decide) ?_
  refine ma_istoreN dX1_joinFan_10 (by decide) rfl ?_
  show ma_J none mX1_joinFan (d + 1) 0 0 12 [some (vr c), some (vi s), some (vi 1), some (vi 2), some (vi 3), _, _] [] _ nx Q
  refine ma_iload dX1_joinFan_12 rfl ?_
  refine ma_iconst dX1_joinFan_14 ?_
  refine ma_rcmp_ge 93 dX1_joinFan_15 rfl (by decide) (by decide) (fun c15 => absurd c15 (by decide)) (fun c15 => ?_)
  refine ma_iload_n dX1_joinFan_18 rfl ?_
  refine ma_iload_n dX1_joinFan_19 rfl ?_
  refine ma_rcmp_eq 87 dX1_joinFan_20 rfl (by decide) (by decide) (fun c20 => absurd c20 (by decide)) (fun c20 => ?_)
  refine ma_iload dX1_joinFan_23 rfl ?_
  refine ma_iload_n dX1_joinFan_25 rfl ?_
  refine ma_rcmp_eq 87 dX1_joinFan_26 rfl (by decide) (by decide) (fun c26 => absurd c26 (by decide)) (fun c26 => ?_)
  refine ma_iload_n dX1_joinFan_29 rfl ?_
  refine ma_iload_n dX1_joinFan_30 rfl ?_
  refine ma_iload_n dX1_joinFan_31 rfl ?_
  refine ma_rcmp_le 41 dX1_joinFan_32 rfl (by decide) (by decide) (fun c32 => absurd c32 (by decide)) (fun c32 => ?_)
  refine ma_iload_n dX1_joinFan_35 rfl ?_
  refine ma_iconst dX1_joinFan_36 ?_
  refine ma_isubK (1) dX1_joinFan_37 (by decide) ?_
  refine ma_goto 42 dX1_joinFan_38 rfl ?_
  refine ma_iadd dX1_joinFan_42 ?_
  refine ma_istoreN dX1_joinFan_43 (by decide) rfl ?_
  refine ma_iload_n dX1_joinFan_45 rfl ?_
  refine ma_iload dX1_joinFan_46 rfl ?_
  refine ma_iload_n dX1_joinFan_48 rfl ?_
  refine ma_rcmp_le 59 dX1_joinFan_49 rfl (by decide) (by decide) (fun c49 => absurd c49 (by decide)) (fun c49 => ?_)
  refine ma_iload dX1_joinFan_52 rfl ?_
  refine ma_iconst dX1_joinFan_54 ?_
  refine ma_isubK (2) dX1_joinFan_55 (by decide) ?_
  refine ma_goto 61 dX1_joinFan_56 rfl ?_
  refine ma_iadd dX1_joinFan_61 ?_
  refine ma_istoreN dX1_joinFan_62 (by decide) rfl ?_
  refine ma_aload_n dX1_joinFan_64 rfl ?_
  refine ma_iconst dX1_joinFan_65 ?_
  refine ma_iload dX1_joinFan_66 rfl ?_
  refine ma_imul dX1_joinFan_68 ?_
  refine ma_iload dX1_joinFan_69 rfl ?_
  refine ma_iadd dX1_joinFan_71 ?_
  refine ma_iload dX1_joinFan_72 rfl ?_
  refine ma_getsN (j := 3) dX1_joinFan_74 (by decide) gX1_173 ?_
  refine ma_iconst dX1_joinFan_77 ?_
  refine ma_iload_n dX1_joinFan_78 rfl ?_
  refine ma_imulK (8) dX1_joinFan_79 (by decide) ?_
  refine ma_iload dX1_joinFan_80 rfl ?_
  refine ma_iaddK (11) dX1_joinFan_82 (by decide) ?_
  refine ma_tald (j := 3) (n := 16) dX1_joinFan_83 (by decide) tl_3 (by omega) (by omega) (by decide) ?_
  refine ma_cV [_, _, _] dX1_joinFan_84 wX8_join lX1_176 iX8_join sX8_join rfl (by first | exact ma_up_s _ _ _ | assumption | exact (ma_up_n (by assumption)).trans (by assumption)) (Nat.le_of_ble_eq_true rfl) ?_
  refine c_join_fan (x := 2) (y := 3) (by first | assumption | exact (ma_up_n (by assumption)).trans (by assumption)) (by first | exact ma_up_s _ _ _ | assumption) hce (by constructor <;> omega) (by constructor <;> omega) (by decide) (by decide) ?_
  try rw [ma_up_up]
  refine ma_iincK (4) dX1_joinFan_87 rfl (by decide) rfl (by decide) ?_
  refine ma_goto 12 dX1_joinFan_90 rfl ?_
  show ma_J none mX1_joinFan (d + 1) 0 0 12 [some (vr c), some (vi s), some (vi 1), some (vi 2), some (vi 4), _, _] [] _ nx Q
  refine ma_iload dX1_joinFan_12 rfl ?_
  refine ma_iconst dX1_joinFan_14 ?_
  refine ma_rcmp_ge 93 dX1_joinFan_15 rfl (by decide) (by decide) (fun c15 => ?_) (fun c15 => absurd c15 (by decide))
  refine ma_iincK (3) dX1_joinFan_93 rfl (by decide) rfl (by decide) ?_
  refine ma_goto 2 dX1_joinFan_96 rfl ?_
  refine ma_iload_n dX1_joinFan_2 rfl ?_
  refine ma_iconst dX1_joinFan_3 ?_
  refine ma_rcmp_ge 99 dX1_joinFan_4 rfl (by decide) (by decide) (fun c4 => absurd c4 (by decide)) (fun c4 => ?_)
  refine ma_iload_n dX1_joinFan_7 rfl ?_
  refine ma_iconst dX1_joinFan_8 ?_
  refine ma_iaddK (4) dX1_joinFan_9 (by decide) ?_
  refine ma_istoreN dX1_joinFan_10 (by decide) rfl ?_
  show ma_J none mX1_joinFan (d + 1) 0 0 12 [some (vr c), some (vi s), some (vi 1), some (vi 3), some (vi 4), _, _] [] _ nx Q
  refine ma_iload dX1_joinFan_12 rfl ?_
  refine ma_iconst dX1_joinFan_14 ?_
  refine ma_rcmp_ge 93 dX1_joinFan_15 rfl (by decide) (by decide) (fun c15 => ?_) (fun c15 => absurd c15 (by decide))
  refine ma_iincK (4) dX1_joinFan_93 rfl (by decide) rfl (by decide) ?_
  refine ma_goto 2 dX1_joinFan_96 rfl ?_
  refine ma_iload_n dX1_joinFan_2 rfl ?_
  refine ma_iconst dX1_joinFan_3 ?_
  refine ma_rcmp_ge 99 dX1_joinFan_4 rfl (by decide) (by decide) (fun c4 => ?_) (fun c4 => absurd c4 (by decide))
  exact ma_vret dX1_joinFan_99 rfl K
theorem c_X1_joinFan2 {h : ma_H} {c e nx d : Nat} {u s : Int} {C : Int → Int} {Q : Option ma_V → ma_H → Nat → Prop} (hc : h c = co 8 [vi u, vr e]) (he : h e = ci 32 C) (hce : c ≠ e) (hs : 0 ≤ s ∧ s + 2 < 8) (K : Q none (ma_up h e (ci 32 (fj (fj (fj C (s + 0) (s + 1) 0 1) (s + 0) (s + 2) 0 3) (s + 1) (s + 2) 1 3))) nx) : ma_Ct mX1_joinFan (d + 1) 0 0 [vr c, vi s, vi 2] h nx Q := by
  refine ma_Ct.of (by decide +kernel) (Nat.le_of_ble_eq_true rfl) ?_
  refine ma_iconst dX1_joinFan_0 ?_
  refine ma_istore_nN dX1_joinFan_1 (by decide) rfl ?_
  refine ma_iload_n dX1_joinFan_2 rfl ?_
  refine ma_iconst dX1_joinFan_3 ?_
  refine ma_rcmp_ge 99 dX1_joinFan_4 rfl (by decide) (by decide) (fun c4 => absurd c4 (by decide)) (fun c4 => ?_)
  refine ma_iload_n dX1_joinFan_7 rfl ?_
  refine ma_iconst dX1_joinFan_8 ?_
  refine ma_iaddK (1) dX1_joinFan_9 (by decide) ?_
  refine ma_istoreN dX1_joinFan_10 (by decide) rfl ?_
  show ma_J none mX1_joinFan (d + 1) 0 0 12 [some (vr c), some (vi s), some (vi 2), some (vi 0), some (vi 1), _, _] [] _ nx Q
  refine ma_iload dX1_joinFan_12 rfl ?_
  refine ma_iconst dX1_joinFan_14 ?_
  refine ma_rcmp_ge 93 dX1_joinFan_15 rfl (by decide) (by decide) (fun c15 => absurd c15 (by decide)) (fun c15 => ?_)
  refine ma_iload_n dX1_joinFan_18 rfl ?_
  refine ma_iload_n dX1_joinFan_19 rfl ?_
  refine ma_rcmp_eq 87 dX1_joinFan_20 rfl (by decide) (by decide) (fun c20 => absurd c20 (by decide)) (fun c20 => ?_)
  refine ma_iload dX1_joinFan_23 rfl ?_
  refine ma_iload_n dX1_joinFan_25 rfl ?_
  refine ma_rcmp_eq 87 dX1_joinFan_26 rfl (by decide) (by decide) (fun c26 => absurd c26 (by decide)) (fun c26 => ?_)
  refine ma_iload_n dX1_joinFan_29 rfl ?_
  refine ma_iload_n dX1_joinFan_30 rfl ?_
  refine ma_iload_n dX1_joinFan_31 rfl ?_
  refine ma_rcmp_le 41 dX1_joinFan_32 rfl (by decide) (by decide) (fun c32 => ?_) (fun c32 => absurd c32 (by decide))
  refine ma_iload_n dX1_joinFan_41 rfl ?_
  refine ma_iadd dX1_joinFan_42 ?_
  refine ma_istoreN dX1_joinFan_43 (by decide) rfl ?_
  refine ma_iload_n dX1_joinFan_45 rfl ?_
  refine ma_iload dX1_joinFan_46 rfl ?_
  refine ma_iload_n dX1_joinFan_48 rfl ?_
  refine ma_rcmp_le 59 dX1_joinFan_49 rfl (by decide) (by decide) (fun c49 => ?_) (fun c49 => absurd c49 (by decide))
  refine ma_iload dX1_joinFan_59 rfl ?_
  refine ma_iadd dX1_joinFan_61 ?_
  refine ma_istoreN dX1_joinFan_62 (by decide) rfl ?_
  refine ma_aload_n dX1_joinFan_64 rfl ?_
  refine ma_iconst dX1_joinFan_65 ?_
  refine ma_iload dX1_joinFan_66 rfl ?_
  refine ma_imul dX1_joinFan_68 ?_
  refine ma_iload dX1_joinFan_69 rfl ?_
  refine ma_iadd dX1_joinFan_71 ?_
  refine ma_iload dX1_joinFan_72 rfl ?_
  refine ma_getsN (j := 3) dX1_joinFan_74 (by decide) gX1_173 ?_
  refine ma_iconst dX1_joinFan_77 ?_
  refine ma_iload_n dX1_joinFan_78 rfl ?_
  refine ma_imulK (0) dX1_joinFan_79 (by decide) ?_
  refine ma_iload dX1_joinFan_80 rfl ?_
  refine ma_iaddK (1) dX1_joinFan_82 (by decide) ?_
  refine ma_tald (j := 3) (n := 16) dX1_joinFan_83 (by decide) tl_3 (by omega) (by omega) (by decide) ?_
  refine ma_cV [_, _, _] dX1_joinFan_84 wX8_join lX1_176 iX8_join sX8_join rfl (by first | exact ma_up_s _ _ _ | assumption | exact (ma_up_n (by assumption)).trans (by assumption)) (Nat.le_of_ble_eq_true rfl) ?_
  refine c_join_fan (x := 0) (y := 1) (by first | assumption | exact (ma_up_n (by assumption)).trans (by assumption)) (by first | exact ma_up_s _ _ _ | assumption) hce (by constructor <;> omega) (by constructor <;> omega) (by decide) (by decide) ?_
  try rw [ma_up_up]
  refine ma_iincK (2) dX1_joinFan_87 rfl (by decide) rfl (by decide) ?_
  refine ma_goto 12 dX1_joinFan_90 rfl ?_
  show ma_J none mX1_joinFan (d + 1) 0 0 12 [some (vr c), some (vi s), some (vi 2), some (vi 0), some (vi 2), _, _] [] _ nx Q
  refine ma_iload dX1_joinFan_12 rfl ?_
  refine ma_iconst dX1_joinFan_14 ?_
  refine ma_rcmp_ge 93 dX1_joinFan_15 rfl (by decide) (by decide) (fun c15 => absurd c15 (by decide)) (fun c15 => ?_)
  refine ma_iload_n dX1_joinFan_18 rfl ?_
  refine ma_iload_n dX1_joinFan_19 rfl ?_
  refine ma_rcmp_eq 87 dX1_joinFan_20 rfl (by decide) (by decide) (fun c20 => absurd c20 (by decide)) (fun c20 => ?_)
  refine ma_iload dX1_joinFan_23 rfl ?_
  refine ma_iload_n dX1_joinFan_25 rfl ?_
  refine ma_rcmp_eq 87 dX1_joinFan_26 rfl (by decide) (by decide) (fun c26 => ?_) (fun c26 => absurd c26 (by decide))
  refine ma_iincK (3) dX1_joinFan_87 rfl (by decide) rfl (by decide) ?_
  refine ma_goto 12 dX1_joinFan_90 rfl ?_
  show ma_J none mX1_joinFan (d + 1) 0 0 12 [some (vr c), some (vi s), some (vi 2), some (vi 0), some (vi 3), _, _] [] _ nx Q
  refine ma_iload dX1_joinFan_12 rfl ?_
  refine ma_iconst dX1_joinFan_14 ?_
  refine ma_rcmp_ge 93 dX1_joinFan_15 rfl (by decide) (by decide) (fun c15 => absurd c15 (by decide)) (fun c15 => ?_)
  refine ma_iload_n dX1_joinFan_18 rfl ?_
  refine ma_iload_n dX1_joinFan_19 rfl ?_
  refine ma_rcmp_eq 87 dX1_joinFan_20 rfl (by decide) (by decide) (fun c20 => absurd c20 (by decide)) (fun c20 => ?_)
  refine ma_iload dX1_joinFan_23 rfl ?_
  refine ma_iload_n dX1_joinFan_25 rfl ?_
  refine ma_rcmp_eq 87 dX1_joinFan_26 rfl (by decide) (by decide) (fun c26 => absurd c26 (by decide)) (fun c26 => ?_)
  refine ma_iload_n dX1_joinFan_29 rfl ?_
  refine ma_iload_n dX1_joinFan_30 rfl ?_
  refine ma_iload_n dX1_joinFan_31 rfl ?_
  refine ma_rcmp_le 41 dX1_joinFan_32 rfl (by decide) (by decide) (fun c32 => ?_) (fun c32 => absurd c32 (by decide))
  refine ma_iload_n dX1_joinFan_41 rfl ?_
  refine ma_iadd dX1_joinFan_42 ?_
  refine ma_istoreN dX1_joinFan_43 (by decide) rfl ?_
  refine ma_iload_n dX1_joinFan_45 rfl ?_
  refine ma_iload dX1_joinFan_46 rfl ?_
  refine ma_iload_n dX1_joinFan_48 rfl ?_
  refine ma_rcmp_le 59 dX1_joinFan_49 rfl (by decide) (by decide) (fun c49 => absurd c49 (by decide)) (fun c49 => ?_)
  refine ma_iload dX1_joinFan_52 rfl ?_
  refine ma_iconst dX1_joinFan_54 ?_
  refine ma_isubK (2) dX1_joinFan_55 (by decide) ?_
  refine ma_goto 61 dX1_joinFan_56 rfl ?_
  refine ma_iadd dX1_joinFan_61 ?_
  refine ma_istoreN dX1_joinFan_62 (by decide) rfl ?_
  refine ma_aload_n dX1_joinFan_64 rfl ?_
  refine ma_iconst dX1_joinFan_65 ?_
  refine ma_iload dX1_joinFan_66 rfl ?_
  refine ma_imul dX1_joinFan_68 ?_
  refine ma_iload dX1_joinFan_69 rfl ?_
  refine ma_iadd dX1_joinFan_71 ?_
  refine ma_iload dX1_joinFan_72 rfl ?_
  refine ma_getsN (j := 3) dX1_joinFan_74 (by decide) gX1_173 ?_
  refine ma_iconst dX1_joinFan_77 ?_
  refine ma_iload_n dX1_joinFan_78 rfl ?_
  refine ma_imulK (0) dX1_joinFan_79 (by decide) ?_
  refine ma_iload dX1_joinFan_80 rfl ?_
  refine ma_iaddK (3) dX1_joinFan_82 (by decide) ?_
  refine ma_tald (j := 3) (n := 16) dX1_joinFan_83 (by decide) tl_3 (by omega) (by omega) (by decide) ?_
  refine ma_cV [_, _, _] dX1_joinFan_84 wX8_join lX1_176 iX8_join sX8_join rfl (by first | exact ma_up_s _ _ _ | assumption | exact (ma_up_n (by assumption)).trans (by assumption)) (Nat.le_of_ble_eq_true rfl) ?_
  refine c_join_fan (x := 0) (y := 3) (by first | assumption | exact (ma_up_n (by assumption)).trans (by assumption)) (by first | exact ma_up_s _ _ _ | assumption) hce (by constructor <;> omega) (by constructor <;> omega) (by decide) (by decide) ?_
  try rw [ma_up_up]
  refine ma_iincK (4) dX1_joinFan_87 rfl (by decide) rfl (by decide) ?_
  refine ma_goto 12 dX1_joinFan_90 rfl ?_
  show ma_J none mX1_joinFan (d + 1) 0 0 12 [some (vr c), some (vi s), some (vi 2), some (vi 0), some (vi 4), _, _] [] _ nx Q
  refine ma_iload dX1_joinFan_12 rfl ?_
  refine ma_iconst dX1_joinFan_14 ?_
  refine ma_rcmp_ge 93 dX1_joinFan_15 rfl (by decide) (by decide) (fun c15 => ?_) (fun c15 => absurd c15 (by decide))
  refine ma_iincK (1) dX1_joinFan_93 rfl (by decide) rfl (by decide) ?_
  refine ma_goto 2 dX1_joinFan_96 rfl ?_
  refine ma_iload_n dX1_joinFan_2 rfl ?_
  refine ma_iconst dX1_joinFan_3 ?_
  refine ma_rcmp_ge 99 dX1_joinFan_4 rfl (by decide) (by decide) (fun c4 => absurd c4 (by decide)) (fun c4 => ?_)
  refine ma_iload_n dX1_joinFan_7 rfl ?_
  refine ma_iconst dX1_joinFan_8 ?_
  refine ma_iaddK (2) dX1_joinFan_9 (by decide) ?_
  refine ma_istoreN dX1_joinFan_10 (by decide) rfl ?_
  show ma_J none mX1_joinFan (d + 1) 0 0 12 [some (vr c), some (vi s), some (vi 2), some (vi 1), some (vi 2), _, _] [] _ nx Q
  refine ma_iload dX1_joinFan_12 rfl ?_
  refine ma_iconst dX1_joinFan_14 ?_
  refine ma_rcmp_ge 93 dX1_joinFan_15 rfl (by decide) (by decide) (fun c15 => absurd c15 (by decide)) (fun c15 => ?_)
  refine ma_iload_n dX1_joinFan_18 rfl ?_
  refine ma_iload_n dX1_joinFan_19 rfl ?_
  refine ma_rcmp_eq 87 dX1_joinFan_20 rfl (by decide) (by decide) (fun c20 => absurd c20 (by decide)) (fun c20 => ?_)
  refine ma_iload dX1_joinFan_23 rfl ?_
  refine ma_iload_n dX1_joinFan_25 rfl ?_
  refine ma_rcmp_eq 87 dX1_joinFan_26 rfl (by decide) (by decide) (fun c26 => ?_) (fun c26 => absurd c26 (by decide))
  refine ma_iincK (3) dX1_joinFan_87 rfl (by decide) rfl (by decide) ?_
  refine ma_goto 12 dX1_joinFan_90 rfl ?_
  show ma_J none mX1_joinFan (d + 1) 0 0 12 [some (vr c), some (vi s), some (vi 2), some (vi 1), some (vi 3), _, _] [] _ nx Q
  refine ma_iload dX1_joinFan_12 rfl ?_
  refine ma_iconst dX1_joinFan_14 ?_
  refine ma_rcmp_ge 93 dX1_joinFan_15 rfl (by decide) (by decide) (fun c15 => absurd c15 (by decide)) (fun c15 => ?_)
  refine ma_iload_n dX1_joinFan_18 rfl ?_
  refine ma_iload_n dX1_joinFan_19 rfl ?_
  refine ma_rcmp_eq 87 dX1_joinFan_20 rfl (by decide) (by decide) (fun c20 => absurd c20 (by decide)) (fun c20 => ?_)
  refine ma_iload dX1_joinFan_23 rfl ?_
  refine ma_iload_n dX1_joinFan_25 rfl ?_
  refine ma_rcmp_eq 87 dX1_joinFan_26 rfl (by decide) (by decide) (fun c26 => absurd c26 (by decide)) (fun c26 => ?_)
  refine ma_iload_n dX1_joinFan_29 rfl ?_
  refine ma_iload_n dX1_joinFan_30 rfl ?_
  refine ma_iload_n dX1_joinFan_31 rfl ?_
  refine ma_rcmp_le 41 dX1_joinFan_32 rfl (by decide) (by decide) (fun c32 => ?_) (fun c32 => absurd c32 (by decide))
  refine ma_iload_n dX1_joinFan_41 rfl ?_
  refine ma_iadd dX1_joinFan_42 ?_
  refine ma_istoreN dX1_joinFan_43 (by decide) rfl ?_
  refine ma_iload_n dX1_joinFan_45 rfl ?_
  refine ma_iload dX1_joinFan_46 rfl ?_
  refine ma_iload_n dX1_joinFan_48 rfl ?_
  refine ma_rcmp_le 59 dX1_joinFan_49 rfl (by decide) (by decide) (fun c49 => absurd c49 (by decide)) (fun c49 => ?_)
  refine ma_iload dX1_joinFan_52 rfl ?_
  refine ma_iconst dX1_joinFan_54 ?_
  refine ma_isubK (2) dX1_joinFan_55 (by decide) ?_
  refine ma_goto 61 dX1_joinFan_56 rfl ?_
  refine ma_iadd dX1_joinFan_61 ?_
  refine ma_istoreN dX1_joinFan_62 (by decide) rfl ?_
  refine ma_aload_n dX1_joinFan_64 rfl ?_
  refine ma_iconst dX1_joinFan_65 ?_
  refine ma_iload dX1_joinFan_66 rfl ?_
  refine ma_imul dX1_joinFan_68 ?_
  refine ma_iload dX1_joinFan_69 rfl ?_
  refine ma_iadd dX1_joinFan_71 ?_
  refine ma_iload dX1_joinFan_72 rfl ?_
  refine ma_getsN (j := 3) dX1_joinFan_74 (by decide) gX1_173 ?_
  refine ma_iconst dX1_joinFan_77 ?_
  refine ma_iload_n dX1_joinFan_78 rfl ?_
  refine ma_imulK (4) dX1_joinFan_79 (by decide) ?_
  refine ma_iload dX1_joinFan_80 rfl ?_
  refine ma_iaddK (7) dX1_joinFan_82 (by decide) ?_
  refine ma_tald (j := 3) (n := 16) dX1_joinFan_83 (by decide) tl_3 (by omega) (by omega) (by decide) ?_
  refine ma_cV [_, _, _] dX1_joinFan_84 wX8_join lX1_176 iX8_join sX8_join rfl (by first | exact ma_up_s _ _ _ | assumption | exact (ma_up_n (by assumption)).trans (by assumption)) (Nat.le_of_ble_eq_true rfl) ?_
  refine c_join_fan (x := 1) (y := 3) (by first | assumption | exact (ma_up_n (by assumption)).trans (by assumption)) (by first | exact ma_up_s _ _ _ | assumption) hce (by constructor <;> omega) (by constructor <;> omega) (by decide) (by decide) ?_
  try rw [ma_up_up]
  refine ma_iincK (4) dX1_joinFan_87 rfl (by decide) rfl (by decide) ?_
  refine ma_goto 12 dX1_joinFan_90 rfl ?_
  show ma_J none mX1_joinFan (d + 1) 0 0 12 [some (vr c), some (vi s), some (vi 2), some (vi 1), some (vi 4), _, _] [] _ nx Q
  refine ma_iload dX1_joinFan_12 rfl ?_
  refine ma_iconst dX1_joinFan_14 ?_
  refine ma_rcmp_ge 93 dX1_joinFan_15 rfl (by decide) (by decide) (fun c15 => ?_) (fun c15 => absurd c15 (by decide))
  refine ma_iincK (2) dX1_joinFan_93 rfl (by decide) rfl (by decide) ?_
  refine ma_goto 2 dX1_joinFan_96 rfl ?_
  refine ma_iload_n dX1_joinFan_2 rfl ?_
  refine ma_iconst dX1_joinFan_3 ?_
  refine ma_rcmp_ge 99 dX1_joinFan_4 rfl (by decide) (by decide) (fun c4 => absurd c4 (by decide)) (fun c4 => ?_)
  refine ma_iload_n dX1_joinFan_7 rfl ?_
  refine ma_iconst dX1_joinFan_8 ?_
  refine ma_iaddK (3) dX1_joinFan_9 (by decide) ?_
  refine ma_istoreN dX1_joinFan_10 (by decide) rfl ?_
  show ma_J none mX1_joinFan (d + 1) 0 0 12 [some (vr c), some (vi s), some (vi 2), some (vi 2), some (vi 3), _, _] [] _ nx Q
  refine ma_iload dX1_joinFan_12 rfl ?_
  refine ma_iconst dX1_joinFan_14 ?_
  refine ma_rcmp_ge 93 dX1_joinFan_15 rfl (by decide) (by decide) (fun c15 => absurd c15 (by decide)) (fun c15 => ?_)
  refine ma_iload_n dX1_joinFan_18 rfl ?_
  refine ma_iload_n dX1_joinFan_19 rfl ?_
  refine ma_rcmp_eq 87 dX1_joinFan_20 rfl (by decide) (by decide) (fun c20 => ?_) (fun c20 => absurd c20 (by decide))
  refine ma_iincK (4) dX1_joinFan_87 rfl (by decide) rfl (by decide) ?_
  refine ma_goto 12 dX1_joinFan_90 rfl ?_
  show ma_J none mX1_joinFan (d + 1) 0 0 12 [some (vr c), some (vi s), some (vi 2), some (vi 2), some (vi 4), _, _] [] _ nx Q
  refine ma_iload dX1_joinFan_12 rfl ?_
  refine ma_iconst dX1_joinFan_14 ?_
  refine ma_rcmp_ge 93 dX1_joinFan_15 rfl (by decide) (by decide) (fun c15 => ?_) (fun c15 => absurd c15 (by decide))
  refine ma_iincK (3) dX1_joinFan_93 rfl (by decide) rfl (by decide) ?_
  refine ma_goto 2 dX1_joinFan_96 rfl ?_
  refine ma_iload_n dX1_joinFan_2 rfl ?_
  refine ma_iconst dX1_joinFan_3 ?_
  refine ma_rcmp_ge 99 dX1_joinFan_4 rfl (by decide) (by decide) (fun c4 => absurd c4 (by decide)) (fun c4 => ?_)
  refine ma_iload_n dX1_joinFan_7 rfl ?_
  refine ma_iconst dX1_joinFan_8 ?_
  refine ma_iaddK (4) dX1_joinFan_9 (by decide) ?_
  refine ma_istoreN dX1_joinFan_10 (by decide) rfl ?_
  show ma_J none mX1_joinFan (d + 1) 0 0 12 [some (vr c), some (vi s), some (vi 2), some (vi 3), some (vi 4), _, _] [] _ nx Q
  refine ma_iload dX1_joinFan_12 rfl ?_
  refine ma_iconst dX1_joinFan_14 ?_
  refine ma_rcmp_ge 93 dX1_joinFan_15 rfl (by decide) (by decide) (fun c15 => ?_) (fun c15 => absurd c15 (by decide))
  refine ma_iincK (4) dX1_joinFan_93 rfl (by decide) rfl (by decide) ?_
  refine ma_goto 2 dX1_joinFan_96 rfl ?_
  refine ma_iload_n dX1_joinFan_2 rfl ?_
  refine ma_iconst dX1_joinFan_3 ?_
  refine ma_rcmp_ge 99 dX1_joinFan_4 rfl (by decide) (by decide) (fun c4 => ?_) (fun c4 => absurd c4 (by decide))
  exact ma_vret dX1_joinFan_99 rfl K
theorem c_X1_joinFan3 {h : ma_H} {c e nx d : Nat} {u s : Int} {C : Int → Int} {Q : Option ma_V → ma_H → Nat → Prop} (hc : h c = co 8 [vi u, vr e]) (he : h e = ci 32 C) (hce : c ≠ e) (hs : 0 ≤ s ∧ s + 2 < 8) (K : Q none (ma_up h e (ci 32 (fj (fj (fj C (s + 0) (s + 1) 0 1) (s + 0) (s + 2) 0 2) (s + 1) (s + 2) 1 2))) nx) : ma_Ct mX1_joinFan (d + 1) 0 0 [vr c, vi s, vi 3] h nx Q := by
  refine ma_Ct.of (by decide +kernel) (Nat.le_of_ble_eq_true rfl) ?_
  refine ma_iconst dX1_joinFan_0 ?_
  refine ma_istore_nN dX1_joinFan_1 (by decide) rfl ?_
  refine ma_iload_n dX1_joinFan_2 rfl ?_
  refine ma_iconst dX1_joinFan_3 ?_
  refine ma_rcmp_ge 99 dX1_joinFan_4 rfl (by decide) (by decide) (fun c4 => absurd c4 (by decide)) (fun c4 => ?_)
  refine ma_iload_n dX1_joinFan_7 rfl ?_
  refine ma_iconst dX1_joinFan_8 ?_
  refine ma_iaddK (1) dX1_joinFan_9 (by decide) ?_
  refine ma_istoreN dX1_joinFan_10 (by decide) rfl ?_
  show ma_J none mX1_joinFan (d + 1) 0 0 12 [some (vr c), some (vi s), some (vi 3), some (vi 0), some (vi 1), _, _] [] _ nx Q
  refine ma_iload dX1_joinFan_12 rfl ?_
  refine ma_iconst dX1_joinFan_14 ?_
  refine ma_rcmp_ge 93 dX1_joinFan_15 rfl (by decide) (by decide) (fun c15 => absurd c15 (by decide)) (fun c15 => ?_)
  refine ma_iload_n dX1_joinFan_18 rfl ?_
  refine ma_iload_n dX1_joinFan_19 rfl ?_
  refine ma_rcmp_eq 87 dX1_joinFan_20 rfl (by decide) (by decide) (fun c20 => absurd c20 (by decide)) (fun c20 => ?_)
  refine ma_iload dX1_joinFan_23 rfl ?_
  refine ma_iload_n dX1_joinFan_25 rfl ?_
  refine ma_rcmp_eq 87 dX1_joinFan_26 rfl (by decide) (by decide) (fun c26 => absurd c26 (by decide)) (fun c26 => ?_)
  refine ma_iload_n dX1_joinFan_29 rfl ?_
  refine ma_iload_n dX1_joinFan_30 rfl ?_
  refine ma_iload_n dX1_joinFan_31 rfl ?_
  refine ma_rcmp_le 41 dX1_joinFan_32 rfl (by decide) (by decide) (fun c32 => ?_) (fun c32 => absurd c32 (by decide))
  refine ma_iload_n dX1_joinFan_41 rfl ?_
  refine ma_iadd dX1_joinFan_42 ?_
  refine ma_istoreN dX1_joinFan_43 (by decide) rfl ?_
  refine ma_iload_n dX1_joinFan_45 rfl ?_
  refine ma_iload dX1_joinFan_46 rfl ?_
  refine ma_iload_n dX1_joinFan_48 rfl ?_
  refine ma_rcmp_le 59 dX1_joinFan_49 rfl (by decide) (by decide) (fun c49 => ?_) (fun c49 => absurd c49 (by decide))
  refine ma_iload dX1_joinFan_59 rfl ?_
  refine ma_iadd dX1_joinFan_61 ?_
  refine ma_istoreN dX1_joinFan_62 (by decide) rfl ?_
  refine ma_aload_n dX1_joinFan_64 rfl ?_
  refine ma_iconst dX1_joinFan_65 ?_
  refine ma_iload dX1_joinFan_66 rfl ?_
  refine ma_imul dX1_joinFan_68 ?_
  refine ma_iload dX1_joinFan_69 rfl ?_
  refine ma_iadd dX1_joinFan_71 ?_
  refine ma_iload dX1_joinFan_72 rfl ?_
  refine ma_getsN (j := 3) dX1_joinFan_74 (by decide) gX1_173 ?_
  refine ma_iconst dX1_joinFan_77 ?_
  refine ma_iload_n dX1_joinFan_78 rfl ?_
  refine ma_imulK (0) dX1_joinFan_79 (by decide) ?_
  refine ma_iload dX1_joinFan_80 rfl ?_
  refine ma_iaddK (1) dX1_joinFan_82 (by decide) ?_
  refine ma_tald (j := 3) (n := 16) dX1_joinFan_83 (by decide) tl_3 (by omega) (by omega) (by decide) ?_
  refine ma_cV [_, _, _] dX1_joinFan_84 wX8_join lX1_176 iX8_join sX8_join rfl (by first | exact ma_up_s _ _ _ | assumption | exact (ma_up_n (by assumption)).trans (by assumption)) (Nat.le_of_ble_eq_true rfl) ?_
  refine c_join_fan (x := 0) (y := 1) (by first | assumption | exact (ma_up_n (by assumption)).trans (by assumption)) (by first | exact ma_up_s _ _ _ | assumption) hce (by constructor <;> omega) (by constructor <;> omega) (by decide) (by decide) ?_
  try rw [ma_up_up]
  refine ma_iincK (2) dX1_joinFan_87 rfl (by decide) rfl (by decide) ?_
  refine ma_goto 12 dX1_joinFan_90 rfl ?_
  show ma_J none mX1_joinFan (d + 1) 0 0 12 [some (vr c), some (vi s), some (vi 3), some (vi 0), some (vi 2), _, _] [] _ nx Q
  refine ma_iload dX1_joinFan_12 rfl ?_
  refine ma_iconst dX1_joinFan_14 ?_
  refine ma_rcmp_ge 93 dX1_joinFan_15 rfl (by decide) (by decide) (fun c15 => absurd c15 (by decide)) (fun c15 => ?_)
  refine ma_iload_n dX1_joinFan_18 rfl ?_
  refine ma_iload_n dX1_joinFan_19 rfl ?_
  refine ma_rcmp_eq 87 dX1_joinFan_20 rfl (by decide) (by decide) (fun c20 => absurd c20 (by decide)) (fun c20 => ?_)
  refine ma_iload dX1_joinFan_23 rfl ?_
  refine ma_iload_n dX1_joinFan_25 rfl ?_
  refine ma_rcmp_eq 87 dX1_joinFan_26 rfl (by decide) (by decide) (fun c26 => absurd c26 (by decide)) (fun c26 => ?_)
  refine ma_iload_n dX1_joinFan_29 rfl ?_
  refine ma_iload_n dX1_joinFan_30 rfl ?_
  refine ma_iload_n dX1_joinFan_31 rfl ?_
  refine ma_rcmp_le 41 dX1_joinFan_32 rfl (by decide) (by decide) (fun c32 => ?_) (fun c32 => absurd c32 (by decide))
  refine ma_iload_n dX1_joinFan_41 rfl ?_
  refine ma_iadd dX1_joinFan_42 ?_
  refine ma_istoreN dX1_joinFan_43 (by decide) rfl ?_
  refine ma_iload_n dX1_joinFan_45 rfl ?_
  refine ma_iload dX1_joinFan_46 rfl ?_
  refine ma_iload_n dX1_joinFan_48 rfl ?_
  refine ma_rcmp_le 59 dX1_joinFan_49 rfl (by decide) (by decide) (fun c49 => ?_) (fun c49 => absurd c49 (by decide))
  refine ma_iload dX1_joinFan_59 rfl ?_
  refine ma_iadd dX1_joinFan_61 ?_
  refine ma_istoreN dX1_joinFan_62 (by decide) rfl ?_
  refine ma_aload_n dX1_joinFan_64 rfl ?_
  refine ma_iconst dX1_joinFan_65 ?_
  refine ma_iload dX1_joinFan_66 rfl ?_
  refine ma_imul dX1_joinFan_68 ?_
  refine ma_iload dX1_joinFan_69 rfl ?_
  refine ma_iadd dX1_joinFan_71 ?_
  refine ma_iload dX1_joinFan_72 rfl ?_
  refine ma_getsN (j := 3) dX1_joinFan_74 (by decide) gX1_173 ?_
  refine ma_iconst dX1_joinFan_77 ?_
  refine ma_iload_n dX1_joinFan_78 rfl ?_
  refine ma_imulK (0) dX1_joinFan_79 (by decide) ?_
  refine ma_iload dX1_joinFan_80 rfl ?_
  refine ma_iaddK (2) dX1_joinFan_82 (by decide) ?_
  refine ma_tald (j := 3) (n := 16) dX1_joinFan_83 (by decide) tl_3 (by omega) (by omega) (by decide) ?_
  refine ma_cV [_, _, _] dX1_joinFan_84 wX8_join lX1_176 iX8_join sX8_join rfl (by first | exact ma_up_s _ _ _ | assumption | exact (ma_up_n (by assumption)).trans (by assumption)) (Nat.le_of_ble_eq_true rfl) ?_
  refine c_join_fan (x := 0) (y := 2) (by first | assumption | exact (ma_up_n (by assumption)).trans (by assumption)) (by first | exact ma_up_s _ _ _ | assumption) hce (by constructor <;> omega) (by constructor <;> omega) (by decide) (by decide) ?_
  try rw [ma_up_up]
  refine ma_iincK (3) dX1_joinFan_87 rfl (by decide) rfl (by decide) ?_
  refine ma_goto 12 dX1_joinFan_90 rfl ?_
  show ma_J none mX1_joinFan (d + 1) 0 0 12 [some (vr c), some (vi s), some (vi 3), some (vi 0), some (vi 3), _, _] [] _ nx Q
  refine ma_iload dX1_joinFan_12 rfl ?_
  refine ma_iconst dX1_joinFan_14 ?_
  refine ma_rcmp_ge 93 dX1_joinFan_15 rfl (by decide) (by decide) (fun c15 => absurd c15 (by decide)) (fun c15 => ?_)
  refine ma_iload_n dX1_joinFan_18 rfl ?_
  refine ma_iload_n dX1_joinFan_19 rfl ?_
  refine ma_rcmp_eq 87 dX1_joinFan_20 rfl (by decide) (by decide) (fun c20 => absurd c20 (by decide)) (fun c20 => ?_)
  refine ma_iload dX1_joinFan_23 rfl ?_
  refine ma_iload_n dX1_joinFan_25 rfl ?_
  refine ma_rcmp_eq 87 dX1_joinFan_26 rfl (by decide) (by decide) (fun c26 => ?_) (fun c26 => absurd c26 (by decide))
  refine ma_iincK (4) dX1_joinFan_87 rfl (by decide) rfl (by decide) ?_
  refine ma_goto 12 dX1_joinFan_90 rfl ?_
  show ma_J none mX1_joinFan (d + 1) 0 0 12 [some (vr c), some (vi s), some (vi 3), some (vi 0), some (vi 4), _, _] [] _ nx Q
  refine ma_iload dX1_joinFan_12 rfl ?_
  refine ma_iconst dX1_joinFan_14 ?_
  refine ma_rcmp_ge 93 dX1_joinFan_15 rfl (by decide) (by decide) (fun c15 => ?_) (fun c15 => absurd c15 (by decide))
  refine ma_iincK (1) dX1_joinFan_93 rfl (by decide) rfl (by decide) ?_
  refine ma_goto 2 dX1_joinFan_96 rfl ?_
  refine ma_iload_n dX1_joinFan_2 rfl ?_
  refine ma_iconst dX1_joinFan_3 ?_
  refine ma_rcmp_ge 99 dX1_joinFan_4 rfl (by decide) (by decide) (fun c4 => absurd c4 (by decide)) (fun c4 => ?_)
  refine ma_iload_n dX1_joinFan_7 rfl ?_
  refine ma_iconst dX1_joinFan_8 ?_
  refine ma_iaddK (2) dX1_joinFan_9 (by decide) ?_
  refine ma_istoreN dX1_joinFan_10 (by decide) rfl ?_
  show ma_J none mX1_joinFan (d + 1) 0 0 12 [some (vr c), some (vi s), some (vi 3), some (vi 1), some (vi 2), _, _] [] _ nx Q
  refine ma_iload dX1_joinFan_12 rfl ?_
  refine ma_iconst dX1_joinFan_14 ?_
  refine ma_rcmp_ge 93 dX1_joinFan_15 rfl (by decide) (by decide) (fun c15 => absurd c15 (by decide)) (fun c15 => ?_)
  refine ma_iload_n dX1_joinFan_18 rfl ?_
  refine ma_iload_n dX1_joinFan_19 rfl ?_
  refine ma_rcmp_eq 87 dX1_joinFan_20 rfl (by decide) (by decide) (fun c20 => absurd c20 (by decide)) (fun c20 => ?_)
  refine ma_iload dX1_joinFan_23 rfl ?_
  refine ma_iload_n dX1_joinFan_25 rfl ?_
  refine ma_rcmp_eq 87 dX1_joinFan_26 rfl (by decide) (by decide) (fun c26 => absurd c26 (by decide)) (fun c26 => ?_)
  refine ma_iload_n dX1_joinFan_29 rfl ?_
  refine ma_iload_n dX1_joinFan_30 rfl ?_
  refine ma_iload_n dX1_joinFan_31 rfl ?_
  refine ma_rcmp_le 41 dX1_joinFan_32 rfl (by decide) (by decide) (fun c32 => ?_) (fun c32 => absurd c32 (by decide))
  refine ma_iload_n dX1_joinFan_41 rfl ?_
  refine ma_iadd dX1_joinFan_42 ?_
  refine ma_istoreN dX1_joinFan_43 (by decide) rfl ?_
  refine ma_iload_n dX1_joinFan_45 rfl ?_
  refine ma_iload dX1_joinFan_46 rfl ?_
  refine ma_iload_n dX1_joinFan_48 rfl ?_
  refine ma_rcmp_le 59 dX1_joinFan_49 rfl (by decide) (by decide) (fun c49 => ?_) (fun c49 => absurd c49 (by decide))
  refine ma_iload dX1_joinFan_59 rfl ?_
  refine ma_iadd dX1_joinFan_61 ?_
  refine ma_istoreN dX1_joinFan_62 (by decide) rfl ?_
  refine ma_aload_n dX1_joinFan_64 rfl ?_
  refine ma_iconst dX1_joinFan_65 ?_
  refine ma_iload dX1_joinFan_66 rfl ?_
  refine ma_imul dX1_joinFan_68 ?_
  refine ma_iload dX1_joinFan_69 rfl ?_
  refine ma_iadd dX1_joinFan_71 ?_
  refine ma_iload dX1_joinFan_72 rfl ?_
  refine ma_getsN (j := 3) dX1_joinFan_74 (by decide) gX1_173 ?_
  refine ma_iconst dX1_joinFan_77 ?_
  refine ma_iload_n dX1_joinFan_78 rfl ?_
  refine ma_imulK (4) dX1_joinFan_79 (by decide) ?_
  refine ma_iload dX1_joinFan_80 rfl ?_
  refine ma_iaddK (6) dX1_joinFan_82 (by decide) ?_
  refine ma_tald (j := 3) (n := 16) dX1_joinFan_83 (by decide) tl_3 (by omega) (by omega) (by decide) ?_
  refine ma_cV [_, _, _] dX1_joinFan_84 wX8_join lX1_176 iX8_join sX8_join rfl (by first | exact ma_up_s _ _ _ | assumption | exact (ma_up_n (by assumption)).trans (by assumption)) (Nat.le_of_ble_eq_true rfl) ?_
  refine c_join_fan (x := 1) (y := 2) (by first | assumption | exact (ma_up_n (by assumption)).trans (by assumption)) (by first | exact ma_up_s _ _ _ | assumption) hce (by constructor <;> omega) (by constructor <;> omega) (by decide) (by decide) ?_
  try rw [ma_up_up]
  refine ma_iincK (3) dX1_joinFan_87 rfl (by decide) rfl (by decide) ?_
  refine ma_goto 12 dX1_joinFan_90 rfl ?_
  show ma_J none mX1_joinFan (d + 1) 0 0 12 [some (vr c), some (vi s), some (vi 3), some (vi 1), some (vi 3), _, _] [] _ nx Q
  refine ma_iload dX1_joinFan_12 rfl ?_
  refine ma_iconst dX1_joinFan_14 ?_
  refine ma_rcmp_ge 93 dX1_joinFan_15 rfl (by decide) (by decide) (fun c15 => absurd c15 (by decide)) (fun c15 => ?_)
  refine ma_iload_n dX1_joinFan_18 rfl ?_
  refine ma_iload_n dX1_joinFan_19 rfl ?_
  refine ma_rcmp_eq 87 dX1_joinFan_20 rfl (by decide) (by decide) (fun c20 => absurd c20 (by decide)) (fun c20 => ?_)
  refine ma_iload dX1_joinFan_23 rfl ?_
  refine ma_iload_n dX1_joinFan_25 rfl ?_
  refine ma_rcmp_eq 87 dX1_joinFan_26 rfl (by decide) (by decide) (fun c26 => ?_) (fun c26 => absurd c26 (by decide))
  refine ma_iincK (4) dX1_joinFan_87 rfl (by decide) rfl (by decide) ?_
  refine ma_goto 12 dX1_joinFan_90 rfl ?_
  show ma_J none mX1_joinFan (d + 1) 0 0 12 [some (vr c), some (vi s), some (vi 3), some (vi 1), some (vi 4), _, _] [] _ nx Q
  refine ma_iload dX1_joinFan_12 rfl ?_
  refine ma_iconst dX1_joinFan_14 ?_
  refine ma_rcmp_ge 93 dX1_joinFan_15 rfl (by decide) (by decide) (fun c15 => ?_) (fun c15 => absurd c15 (by decide))
  refine ma_iincK (2) dX1_joinFan_93 rfl (by decide) rfl (by decide) ?_
  refine ma_goto 2 dX1_joinFan_96 rfl ?_
  refine ma_iload_n dX1_joinFan_2 rfl ?_
  refine ma_iconst dX1_joinFan_3 ?_
  refine ma_rcmp_ge 99 dX1_joinFan_4 rfl (by decide) (by decide) (fun c4 => absurd c4 (by decide)) (fun c4 => ?_)
  refine ma_iload_n dX1_joinFan_7 rfl ?_
  refine ma_iconst dX1_joinFan_8 ?_
  refine ma_iaddK (3) dX1_joinFan_9 (by decide) ?_
  refine ma_istoreN dX1_joinFan_10 (by decide) rfl ?_
  show ma_J none mX1_joinFan (d + 1) 0 0 12 [some (vr c), some (vi s), some (vi 3), some (vi 2), some (vi 3), _, _] [] _ nx Q
  refine ma_iload dX1_joinFan_12 rfl ?_
  refine ma_iconst dX1_joinFan_14 ?_
  refine ma_rcmp_ge 93 dX1_joinFan_15 rfl (by decide) (by decide) (fun c15 => absurd c15 (by decide)) (fun c15 => ?_)
  refine ma_iload_n dX1_joinFan_18 rfl ?_
  refine ma_iload_n dX1_joinFan_19 rfl ?_
  refine ma_rcmp_eq 87 dX1_joinFan_20 rfl (by decide) (by decide) (fun c20 => absurd c20 (by decide)) (fun c20 => ?_)
  refine ma_iload dX1_joinFan_23 rfl ?_
  refine ma_iload_n dX1_joinFan_25 rfl ?_
  refine ma_rcmp_eq 87 dX1_joinFan_26 rfl (by decide) (by decide) (fun c26 => ?_) (fun c26 => absurd c26 (by decide))
  refine ma_iincK (4) dX1_joinFan_87 rfl (by decide) rfl (by decide) ?_
  refine ma_goto 12 dX1_joinFan_90 rfl ?_
  show ma_J none mX1_joinFan (d + 1) 0 0 12 [some (vr c), some (vi s), some (vi 3), some (vi 2), some (vi 4), _, _] [] _ nx Q
  refine ma_iload dX1_joinFan_12 rfl ?_
  refine ma_iconst dX1_joinFan_14 ?_
  refine ma_rcmp_ge 93 dX1_joinFan_15 rfl (by decide) (by decide) (fun c15 => ?_) (fun c15 => absurd c15 (by decide))
  refine ma_iincK (3) dX1_joinFan_93 rfl (by decide) rfl (by decide) ?_
  refine ma_goto 2 dX1_joinFan_96 rfl ?_
  refine ma_iload_n dX1_joinFan_2 rfl ?_
  refine ma_iconst dX1_joinFan_3 ?_
  refine ma_rcmp_ge 99 dX1_joinFan_4 rfl (by decide) (by decide) (fun c4 => absurd c4 (by decide)) (fun c4 => ?_)
  refine ma_iload_n dX1_joinFan_7 rfl ?_
  refine ma_iconst dX1_joinFan_8 ?_
  refine ma_iaddK (4) dX1_joinFan_9 (by decide) ?_
  refine ma_istoreN dX1_joinFan_10 (by decide) rfl ?_
  show ma_J none mX1_joinFan (d + 1) 0 0 12 [some (vr c), some (vi s), some (vi 3), some (vi 3), some (vi 4), _, _] [] _ nx Q
  refine ma_iload dX1_joinFan_12 rfl ?_
  refine ma_iconst dX1_joinFan_14 ?_
  refine ma_rcmp_ge 93 dX1_joinFan_15 rfl (by decide) (by decide) (fun c15 => ?_) (fun c15 => absurd c15 (by decide))
  refine ma_iincK (4) dX1_joinFan_93 rfl (by decide) rfl (by decide) ?_
  refine ma_goto 2 dX1_joinFan_96 rfl ?_
  refine ma_iload_n dX1_joinFan_2 rfl ?_
  refine ma_iconst dX1_joinFan_3 ?_
  refine ma_rcmp_ge 99 dX1_joinFan_4 rfl (by decide) (by decide) (fun c4 => ?_) (fun c4 => absurd c4 (by decide))
  exact ma_vret dX1_joinFan_99 rfl K
theorem c_X1_joinFan4 {h : ma_H} {c e nx d : Nat} {u s : Int} {C : Int → Int} {Q : Option ma_V → ma_H → Nat → Prop} (hc : h c = co 8 [vi u, vr e]) (he : h e = ci 32 C) (hce : c ≠ e) (hs : 0 ≤ s ∧ s + 3 < 8) (K : Q none (ma_up h e (ci 32 (fj (fj (fj (fj (fj (fj C (s + 0) (s + 1) 0 1) (s + 0) (s + 2) 0 2) (s + 0) (s + 3) 0 3) (s + 1) (s + 2) 1 2) (s + 1) (s + 3) 1 3) (s + 2) (s + 3) 2 3))) nx) : ma_Ct mX1_joinFan (d + 1) 0 0 [vr c, vi s, vi 4] h nx Q := by
  refine ma_Ct.of (by decide +kernel) (Nat.le_of_ble_eq_true rfl) ?_
  refine ma_iconst dX1_joinFan_0 ?_
  refine ma_istore_nN dX1_joinFan_1 (by decide) rfl ?_
  refine ma_iload_n dX1_joinFan_2 rfl ?_
  refine ma_iconst dX1_joinFan_3 ?_
  refine ma_rcmp_ge 99 dX1_joinFan_4 rfl (by decide) (by decide) (fun c4 => absurd c4 (by decide)) (fun c4 => ?_)
  refine ma_iload_n dX1_joinFan_7 rfl ?_
  refine ma_iconst dX1_joinFan_8 ?_
  refine ma_iaddK (1) dX1_joinFan_9 (by decide) ?_
  refine ma_istoreN dX1_joinFan_10 (by decide) rfl ?_
  show ma_J none mX1_joinFan (d + 1) 0 0 12 [some (vr c), some (vi s), some (vi 4), some (vi 0), some (vi 1), _, _] [] _ nx Q
  refine ma_iload dX1_joinFan_12 rfl ?_
  refine ma_iconst dX1_joinFan_14 ?_
  refine ma_rcmp_ge 93 dX1_joinFan_15 rfl (by decide) (by decide) (fun c15 => absurd c15 (by decide)) (fun c15 => ?_)
  refine ma_iload_n dX1_joinFan_18 rfl ?_
  refine ma_iload_n dX1_joinFan_19 rfl ?_
  refine ma_rcmp_eq 87 dX1_joinFan_20 rfl (by decide) (by decide) (fun c20 => absurd c20 (by decide)) (fun c20 => ?_)
  refine ma_iload dX1_joinFan_23 rfl ?_
  refine ma_iload_n dX1_joinFan_25 rfl ?_
  refine ma_rcmp_eq 87 dX1_joinFan_26 rfl (by decide) (by decide) (fun c26 => absurd c26 (by decide)) (fun c26 => ?_)
  refine ma_iload_n dX1_joinFan_29 rfl ?_
  refine ma_iload_n dX1_joinFan_30 rfl ?_
  refine ma_iload_n dX1_joinFan_31 rfl ?_
  refine ma_rcmp_le 41 dX1_joinFan_32 rfl (by decide) (by decide) (fun c32 => ?_) (fun c32 => absurd c32 (by decide))
  refine ma_iload_n dX1_joinFan_41 rfl ?_
  refine ma_iadd dX1_joinFan_42 ?_
  refine ma_istoreN dX1_joinFan_43 (by decide) rfl ?_
  refine ma_iload_n dX1_joinFan_45 rfl ?_
  refine ma_iload dX1_joinFan_46 rfl ?_
  refine ma_iload_n dX1_joinFan_48 rfl ?_
  refine ma_rcmp_le 59 dX1_joinFan_49 rfl (by decide) (by decide) (fun c49 => ?_) (fun c49 => absurd c49 (by decide))
  refine ma_iload dX1_joinFan_59 rfl ?_
  refine ma_iadd dX1_joinFan_61 ?_
  refine ma_istoreN dX1_joinFan_62 (by decide) rfl ?_
  refine ma_aload_n dX1_joinFan_64 rfl ?_
  refine ma_iconst dX1_joinFan_65 ?_
  refine ma_iload dX1_joinFan_66 rfl ?_
  refine ma_imul dX1_joinFan_68 ?_
  refine ma_iload dX1_joinFan_69 rfl ?_
  refine ma_iadd dX1_joinFan_71 ?_
  refine ma_iload dX1_joinFan_72 rfl ?_
  refine ma_getsN (j := 3) dX1_joinFan_74 (by decide) gX1_173 ?_
  refine ma_iconst dX1_joinFan_77 ?_
  refine ma_iload_n dX1_joinFan_78 rfl ?_
  refine ma_imulK (0) dX1_joinFan_79 (by decide) ?_
  refine ma_iload dX1_joinFan_80 rfl ?_
  refine ma_iaddK (1) dX1_joinFan_82 (by decide) ?_
  refine ma_tald (j := 3) (n := 16) dX1_joinFan_83 (by decide) tl_3 (by omega) (by omega) (by decide) ?_
  refine ma_cV [_, _, _] dX1_joinFan_84 wX8_join lX1_176 iX8_join sX8_join rfl (by first | exact ma_up_s _ _ _ | assumption | exact (ma_up_n (by assumption)).trans (by assumption)) (Nat.le_of_ble_eq_true rfl) ?_
  refine c_join_fan (x := 0) (y := 1) (by first | assumption | exact (ma_up_n (by assumption)).trans (by assumption)) (by first | exact ma_up_s _ _ _ | assumption) hce (by constructor <;> omega) (by constructor <;> omega) (by decide) (by decide) ?_
  try rw [ma_up_up]
  refine ma_iincK (2) dX1_joinFan_87 rfl (by decide) rfl (by decide) ?_
  refine ma_goto 12 dX1_joinFan_90 rfl ?_
  show ma_J none mX1_joinFan (d + 1) 0 0 12 [some (vr c), some (vi s), some (vi 4), some (vi 0), some (vi 2), _, _] [] _ nx Q
  refine ma_iload dX1_joinFan_12 rfl ?_
  refine ma_iconst dX1_joinFan_14 ?_
  refine ma_rcmp_ge 93 dX1_joinFan_15 rfl (by decide) (by decide) (fun c15 => absurd c15 (by decide)) (fun c15 => ?_)
  refine ma_iload_n dX1_joinFan_18 rfl ?_
  refine ma_iload_n dX1_joinFan_19 rfl ?_
  refine ma_rcmp_eq 87 dX1_joinFan_20 rfl (by decide) (by decide) (fun c20 => absurd c20 (by decide)) (fun c20 => ?_)
  refine ma_iload dX1_joinFan_23 rfl ?_
  refine ma_iload_n dX1_joinFan_25 rfl ?_
  refine ma_rcmp_eq 87 dX1_joinFan_26 rfl (by decide) (by decide) (fun c26 => absurd c26 (by decide)) (fun c26 => ?_)
  refine ma_iload_n dX1_joinFan_29 rfl ?_
  refine ma_iload_n dX1_joinFan_30 rfl ?_
  refine ma_iload_n dX1_joinFan_31 rfl ?_
  refine ma_rcmp_le 41 dX1_joinFan_32 rfl (by decide) (by decide) (fun c32 => ?_) (fun c32 => absurd c32 (by decide))
  refine ma_iload_n dX1_joinFan_41 rfl ?_
  refine ma_iadd dX1_joinFan_42 ?_
  refine ma_istoreN dX1_joinFan_43 (by decide) rfl ?_
  refine ma_iload_n dX1_joinFan_45 rfl ?_
  refine ma_iload dX1_joinFan_46 rfl ?_
  refine ma_iload_n dX1_joinFan_48 rfl ?_
  refine ma_rcmp_le 59 dX1_joinFan_49 rfl (by decide) (by decide) (fun c49 => ?_) (fun c49 => absurd c49 (by decide))
  refine ma_iload dX1_joinFan_59 rfl ?_
  refine ma_iadd dX1_joinFan_61 ?_
  refine ma_istoreN dX1_joinFan_62 (by decide) rfl ?_
  refine ma_aload_n dX1_joinFan_64 rfl ?_
  refine ma_iconst dX1_joinFan_65 ?_
  refine ma_iload dX1_joinFan_66 rfl ?_
  refine ma_imul dX1_joinFan_68 ?_
  refine ma_iload dX1_joinFan_69 rfl ?_
  refine ma_iadd dX1_joinFan_71 ?_
  refine ma_iload dX1_joinFan_72 rfl ?_
  refine ma_getsN (j := 3) dX1_joinFan_74 (by decide) gX1_173 ?_
  refine ma_iconst dX1_joinFan_77 ?_
  refine ma_iload_n dX1_joinFan_78 rfl ?_
  refine ma_imulK (0) dX1_joinFan_79 (by decide) ?_
  refine ma_iload dX1_joinFan_80 rfl ?_
  refine ma_iaddK (2) dX1_joinFan_82 (by decide) ?_
  refine ma_tald (j := 3) (n := 16) dX1_joinFan_83 (by decide) tl_3 (by omega) (by omega) (by decide) ?_
  refine ma_cV [_, _, _] dX1_joinFan_84 wX8_join lX1_176 iX8_join sX8_join rfl (by first | exact ma_up_s _ _ _ | assumption | exact (ma_up_n (by assumption)).trans (by assumption)) (Nat.le_of_ble_eq_true rfl) ?_
  refine c_join_fan (x := 0) (y := 2) (by first | assumption | exact (ma_up_n (by assumption)).trans (by assumption)) (by first | exact ma_up_s _ _ _ | assumption) hce (by constructor <;> omega) (by constructor <;> omega) (by decide) (by decide) ?_
  try rw [ma_up_up]
  refine ma_iincK (3) dX1_joinFan_87 rfl (by decide) rfl (by decide) ?_
  refine ma_goto 12 dX1_joinFan_90 rfl ?_
  show ma_J none mX1_joinFan (d + 1) 0 0 12 [some (vr c), some (vi s), some (vi 4), some (vi 0), some (vi 3), _, _] [] _ nx Q
  refine ma_iload dX1_joinFan_12 rfl ?_
  refine ma_iconst dX1_joinFan_14 ?_
  refine ma_rcmp_ge 93 dX1_joinFan_15 rfl (by decide) (by decide) (fun c15 => absurd c15 (by decide)) (fun c15 => ?_)
  refine ma_iload_n dX1_joinFan_18 rfl ?_
  refine ma_iload_n dX1_joinFan_19 rfl ?_
  refine ma_rcmp_eq 87 dX1_joinFan_20 rfl (by decide) (by decide) (fun c20 => absurd c20 (by decide)) (fun c20 => ?_)
  refine ma_iload dX1_joinFan_23 rfl ?_
  refine ma_iload_n dX1_joinFan_25 rfl ?_
  refine ma_rcmp_eq 87 dX1_joinFan_26 rfl (by decide) (by decide) (fun c26 => absurd c26 (by decide)) (fun c26 => ?_)
  refine ma_iload_n dX1_joinFan_29 rfl ?_
  refine ma_iload_n dX1_joinFan_30 rfl ?_
  refine ma_iload_n dX1_joinFan_31 rfl ?_
  refine ma_rcmp_le 41 dX1_joinFan_32 rfl (by decide) (by decide) (fun c32 => ?_) (fun c32 => absurd c32 (by decide))
  refine ma_iload_n dX1_joinFan_41 rfl ?_
  refine ma_iadd dX1_joinFan_42 ?_
  refine ma_istoreN dX1_joinFan_43 (by decide) rfl ?_
  refine ma_iload_n dX1_joinFan_45 rfl ?_
  refine ma_iload dX1_joinFan_46 rfl ?_
  refine ma_iload_n dX1_joinFan_48 rfl ?_
  refine ma_rcmp_le 59 dX1_joinFan_49 rfl (by decide) (by decide) (fun c49 => ?_) (fun c49 => absurd c49 (by decide))
  refine ma_iload dX1_joinFan_59 rfl ?_
  refine ma_iadd dX1_joinFan_61 ?_
  refine ma_istoreN dX1_joinFan_62 (by decide) rfl ?_
  refine ma_aload_n dX1_joinFan_64 rfl ?_
  refine ma_iconst dX1_joinFan_65 ?_
  refine ma_iload dX1_joinFan_66 rfl ?_
  refine ma_imul dX1_joinFan_68 ?_
  refine ma_iload dX1_joinFan_69 rfl ?_
  refine ma_iadd dX1_joinFan_71 ?_
  refine ma_iload dX1_joinFan_72 rfl ?_
  refine ma_getsN (j := 3) dX1_joinFan_74 (by decide) gX1_173 ?_
  refine ma_iconst dX1_joinFan_77 ?_
  refine ma_iload_n dX1_joinFan_78 rfl ?_
  refine ma_imulK (0) dX1_joinFan_79 (by decide) ?_
  refine ma_iload dX1_joinFan_80 rfl ?_
  refine ma_iaddK (3) dX1_joinFan_82 (by decide) ?_
  refine ma_tald (j := 3) (n := 16) dX1_joinFan_83 (by decide) tl_3 (by omega) (by omega) (by decide) ?_
  refine ma_cV [_, _, _] dX1_joinFan_84 wX8_join lX1_176 iX8_join sX8_join rfl (by first | exact ma_up_s _ _ _ | assumption | exact (ma_up_n (by assumption)).trans (by assumption)) (Nat.le_of_ble_eq_true rfl) ?_
  refine c_join_fan (x := 0) (y := 3) (by first | assumption | exact (ma_up_n (by assumption)).trans (by assumption)) (by first | exact ma_up_s _ _ _ | assumption) hce (by constructor <;> omega) (by constructor <;> omega) (by decide) (by decide) ?_
  try rw [ma_up_up]
  refine ma_iincK (4) dX1_joinFan_87 rfl (by decide) rfl (by decide) ?_
  refine ma_goto 12 dX1_joinFan_90 rfl ?_
  show ma_J none mX1_joinFan (d + 1) 0 0 12 [some (vr c), some (vi s), some (vi 4), some (vi 0), some (vi 4), _, _] [] _ nx Q
  refine ma_iload dX1_joinFan_12 rfl ?_
  refine ma_iconst dX1_joinFan_14 ?_
  refine ma_rcmp_ge 93 dX1_joinFan_15 rfl (by decide) (by decide) (fun c15 => ?_) (fun c15 => absurd c15 (by decide))
  refine ma_iincK (1) dX1_joinFan_93 rfl (by decide) rfl (by decide) ?_
  refine ma_goto 2 dX1_joinFan_96 rfl ?_
  refine ma_iload_n dX1_joinFan_2 rfl ?_
  refine ma_iconst dX1_joinFan_3 ?_
  refine ma_rcmp_ge 99 dX1_joinFan_4 rfl (by decide) (by decide) (fun c4 => absurd c4 (by decide)) (fun c4 => ?_)
  refine ma_iload_n dX1_joinFan_7 rfl ?_
  refine ma_iconst dX1_joinFan_8 ?_
  refine ma_iaddK (2) dX1_joinFan_9 (by decide) ?_
  refine ma_istoreN dX1_joinFan_10 (by decide) rfl ?_
  show ma_J none mX1_joinFan (d + 1) 0 0 12 [some (vr c), some (vi s), some (vi 4), some (vi 1), some (vi 2), _, _] [] _ nx Q
  refine ma_iload dX1_joinFan_12 rfl ?_
  refine ma_iconst dX1_joinFan_14 ?_
  refine ma_rcmp_ge 93 dX1_joinFan_15 rfl (by decide) (by decide) (fun c15 => absurd c15 (by decide)) (fun c15 => ?_)
  refine ma_iload_n dX1_joinFan_18 rfl ?_
  refine ma_iload_n dX1_joinFan_19 rfl ?_
  refine ma_rcmp_eq 87 dX1_joinFan_20 rfl (by decide) (by decide) (fun c20 => absurd c20 (by decide)) (fun c20 => ?_)
  refine ma_iload dX1_joinFan_23 rfl ?_
  refine ma_iload_n dX1_joinFan_25 rfl ?_
  refine ma_rcmp_eq 87 dX1_joinFan_26 rfl (by decide) (by decide) (fun c26 => absurd c26 (by decide)) (fun c26 => ?_)
  refine ma_iload_n dX1_joinFan_29 rfl ?_
  refine ma_iload_n dX1_joinFan_30 rfl ?_
  refine ma_iload_n dX1_joinFan_31 rfl ?_
  refine ma_rcmp_le 41 dX1_joinFan_32 rfl (by decide) (by decide) (fun c32 => ?_) (fun c32 => absurd c32 (by decide))
  refine ma_iload_n dX1_joinFan_41 rfl ?_
  refine ma_iadd dX1_joinFan_42 ?_
  refine ma_istoreN dX1_joinFan_43 (by decide) rfl ?_
  refine ma_iload_n dX1_joinFan_45 rfl ?_
  refine ma_iload dX1_joinFan_46 rfl ?_
  refine ma_iload_n dX1_joinFan_48 rfl ?_
  refine ma_rcmp_le 59 dX1_joinFan_49 rfl (by decide) (by decide) (fun c49 => ?_) (fun c49 => absurd c49 (by decide))
  refine ma_iload dX1_joinFan_59 rfl ?_
  refine ma_iadd dX1_joinFan_61 ?_
  refine ma_istoreN dX1_joinFan_62 (by decide) rfl ?_
  refine ma_aload_n dX1_joinFan_64 rfl ?_
  refine ma_iconst dX1_joinFan_65 ?_
  refine ma_iload dX1_joinFan_66 rfl ?_
  refine ma_imul dX1_joinFan_68 ?_
  refine ma_iload dX1_joinFan_69 rfl ?_
  refine ma_iadd dX1_joinFan_71 ?_
  refine ma_iload dX1_joinFan_72 rfl ?_
  refine ma_getsN (j := 3) dX1_joinFan_74 (by decide) gX1_173 ?_
  refine ma_iconst dX1_joinFan_77 ?_
  refine ma_iload_n dX1_joinFan_78 rfl ?_
  refine ma_imulK (4) dX1_joinFan_79 (by decide) ?_
  refine ma_iload dX1_joinFan_80 rfl ?_
  refine ma_iaddK (6) dX1_joinFan_82 (by decide) ?_
  refine ma_tald (j := 3) (n := 16) dX1_joinFan_83 (by decide) tl_3 (by omega) (by omega) (by decide) ?_
  refine ma_cV [_, _, _] dX1_joinFan_84 wX8_join lX1_176 iX8_join sX8_join rfl (by first | exact ma_up_s _ _ _ | assumption | exact (ma_up_n (by assumption)).trans (by assumption)) (Nat.le_of_ble_eq_true rfl) ?_
  refine c_join_fan (x := 1) (y := 2) (by first | assumption | exact (ma_up_n (by assumption)).trans (by assumption)) (by first | exact ma_up_s _ _ _ | assumption) hce (by constructor <;> omega) (by constructor <;> omega) (by decide) (by decide) ?_
  try rw [ma_up_up]
  refine ma_iincK (3) dX1_joinFan_87 rfl (by decide) rfl (by decide) ?_
  refine ma_goto 12 dX1_joinFan_90 rfl ?_
  show ma_J none mX1_joinFan (d + 1) 0 0 12 [some (vr c), some (vi s), some (vi 4), some (vi 1), some (vi 3), _, _] [] _ nx Q
  refine ma_iload dX1_joinFan_12 rfl ?_
  refine ma_iconst dX1_joinFan_14 ?_
  refine ma_rcmp_ge 93 dX1_joinFan_15 rfl (by decide) (by decide) (fun c15 => absurd c15 (by decide)) (fun c15 => ?_)
  refine ma_iload_n dX1_joinFan_18 rfl ?_
  refine ma_iload_n dX1_joinFan_19 rfl ?_
  refine ma_rcmp_eq 87 dX1_joinFan_20 rfl (by decide) (by decide) (fun c20 => absurd c20 (by decide)) (fun c20 => ?_)
  refine ma_iload dX1_joinFan_23 rfl ?_
  refine ma_iload_n dX1_joinFan_25 rfl ?_
  refine ma_rcmp_eq 87 dX1_joinFan_26 rfl (by decide) (by decide) (fun c26 => absurd c26 (by decide)) (fun c26 => ?_)
  refine ma_iload_n dX1_joinFan_29 rfl ?_
  refine ma_iload_n dX1_joinFan_30 rfl ?_
  refine ma_iload_n dX1_joinFan_31 rfl ?_
  refine ma_rcmp_le 41 dX1_joinFan_32 rfl (by decide) (by decide) (fun c32 => ?_) (fun c32 => absurd c32 (by decide))
  refine ma_iload_n dX1_joinFan_41 rfl ?_
  refine ma_iadd dX1_joinFan_42 ?_
  refine ma_istoreN dX1_joinFan_43 (by decide) rfl ?_
  refine ma_iload_n dX1_joinFan_45 rfl ?_
  refine ma_iload dX1_joinFan_46 rfl ?_
  refine ma_iload_n dX1_joinFan_48 rfl ?_
  refine ma_rcmp_le 59 dX1_joinFan_49 rfl (by decide) (by decide) (fun c49 => ?_) (fun c49 => absurd c49 (by decide))
  refine ma_iload dX1_joinFan_59 rfl ?_
  refine ma_iadd dX1_joinFan_61 ?_
  refine ma_istoreN dX1_joinFan_62 (by decide) rfl ?_
  refine ma_aload_n dX1_joinFan_64 rfl ?_
  refine ma_iconst dX1_joinFan_65 ?_
  refine ma_iload dX1_joinFan_66 rfl ?_
  refine ma_imul dX1_joinFan_68 ?_
  refine ma_iload dX1_joinFan_69 rfl ?_
  refine ma_iadd dX1_joinFan_71 ?_
  refine ma_iload dX1_joinFan_72 rfl ?_
  refine ma_getsN (j := 3) dX1_joinFan_74 (by decide) gX1_173 ?_
  refine ma_iconst dX1_joinFan_77 ?_
  refine ma_iload_n dX1_joinFan_78 rfl ?_
  refine ma_imulK (4) dX1_joinFan_79 (by decide) ?_
  refine ma_iload dX1_joinFan_80 rfl ?_
  refine ma_iaddK (7) dX1_joinFan_82 (by decide) ?_
  refine ma_tald (j := 3) (n := 16) dX1_joinFan_83 (by decide) tl_3 (by omega) (by omega) (by decide) ?_
  refine ma_cV [_, _, _] dX1_joinFan_84 wX8_join lX1_176 iX8_join sX8_join rfl (by first | exact ma_up_s _ _ _ | assumption | exact (ma_up_n (by assumption)).trans (by assumption)) (Nat.le_of_ble_eq_true rfl) ?_
  refine c_join_fan (x := 1) (y := 3) (by first | assumption | exact (ma_up_n (by assumption)).trans (by assumption)) (by first | exact ma_up_s _ _ _ | assumption) hce (by constructor <;> omega) (by constructor <;> omega) (by decide) (by decide) ?_
  try rw [ma_up_up]
  refine ma_iincK (4) dX1_joinFan_87 rfl (by decide) rfl (by decide) ?_
  refine ma_goto 12 dX1_joinFan_90 rfl ?_
  show ma_J none mX1_joinFan (d + 1) 0 0 12 [some (vr c), some (vi s), some (vi 4), some (vi 1), some (vi 4), _, _] [] _ nx Q
  refine ma_iload dX1_joinFan_12 rfl ?_
  refine ma_iconst dX1_joinFan_14 ?_
  refine ma_rcmp_ge 93 dX1_joinFan_15 rfl (by decide) (by decide) (fun c15 => ?_) (fun c15 => absurd c15 (by decide))
  refine ma_iincK (2) dX1_joinFan_93 rfl (by decide) rfl (by decide) ?_
  refine ma_goto 2 dX1_joinFan_96 rfl ?_
  refine ma_iload_n dX1_joinFan_2 rfl ?_
  refine ma_iconst dX1_joinFan_3 ?_
  refine ma_rcmp_ge 99 dX1_joinFan_4 rfl (by decide) (by decide) (fun c4 => absurd c4 (by decide)) (fun c4 => ?_)
  refine ma_iload_n dX1_joinFan_7 rfl ?_
  refine ma_iconst dX1_joinFan_8 ?_
  refine ma_iaddK (3) dX1_joinFan_9 (by decide) ?_
  refine ma_istoreN dX1_joinFan_10 (by decide) rfl ?_
  show ma_J none mX1_joinFan (d + 1) 0 0 12 [some (vr c), some (vi s), some (vi 4), some (vi 2), some (vi 3), _, _] [] _ nx Q
  refine ma_iload dX1_joinFan_12 rfl ?_
  refine ma_iconst dX1_joinFan_14 ?_
  refine ma_rcmp_ge 93 dX1_joinFan_15 rfl (by decide) (by decide) (fun c15 => absurd c15 (by decide)) (fun c15 => ?_)
  refine ma_iload_n dX1_joinFan_18 rfl ?_
  refine ma_iload_n dX1_joinFan_19 rfl ?_
  refine ma_rcmp_eq 87 dX1_joinFan_20 rfl (by decide) (by decide) (fun c20 => absurd c20 (by decide)) (fun c20 => ?_)
  refine ma_iload dX1_joinFan_23 rfl ?_
  refine ma_iload_n dX1_joinFan_25 rfl ?_
  refine ma_rcmp_eq 87 dX1_joinFan_26 rfl (by decide) (by decide) (fun c26 => absurd c26 (by decide)) (fun c26 => ?_)
  refine ma_iload_n dX1_joinFan_29 rfl ?_
  refine ma_iload_n dX1_joinFan_30 rfl ?_
  refine ma_iload_n dX1_joinFan_31 rfl ?_
  refine ma_rcmp_le 41 dX1_joinFan_32 rfl (by decide) (by decide) (fun c32 => ?_) (fun c32 => absurd c32 (by decide))
  refine ma_iload_n dX1_joinFan_41 rfl ?_
  refine ma_iadd dX1_joinFan_42 ?_
  refine ma_istoreN dX1_joinFan_43 (by decide) rfl ?_
  refine ma_iload_n dX1_joinFan_45 rfl ?_
  refine ma_iload dX1_joinFan_46 rfl ?_
  refine ma_iload_n dX1_joinFan_48 rfl ?_
  refine ma_rcmp_le 59 dX1_joinFan_49 rfl (by decide) (by decide) (fun c49 => ?_) (fun c49 => absurd c49 (by decide))
  refine ma_iload dX1_joinFan_59 rfl ?_
  refine ma_iadd dX1_joinFan_61 ?_
  refine ma_istoreN dX1_joinFan_62 (by decide) rfl ?_
  refine ma_aload_n dX1_joinFan_64 rfl ?_
  refine ma_iconst dX1_joinFan_65 ?_
  refine ma_iload dX1_joinFan_66 rfl ?_
  refine ma_imul dX1_joinFan_68 ?_
  refine ma_iload dX1_joinFan_69 rfl ?_
  refine ma_iadd dX1_joinFan_71 ?_
  refine ma_iload dX1_joinFan_72 rfl ?_
  refine ma_getsN (j := 3) dX1_joinFan_74 (by decide) gX1_173 ?_
  refine ma_iconst dX1_joinFan_77 ?_
  refine ma_iload_n dX1_joinFan_78 rfl ?_
  refine ma_imulK (8) dX1_joinFan_79 (by decide) ?_
  refine ma_iload dX1_joinFan_80 rfl ?_
  refine ma_iaddK (11) dX1_joinFan_82 (by decide) ?_
  refine ma_tald (j := 3) (n := 16) dX1_joinFan_83 (by decide) tl_3 (by omega) (by omega) (by decide) ?_
  refine ma_cV [_, _, _] dX1_joinFan_84 wX8_join lX1_176 iX8_join sX8_join rfl (by first | exact ma_up_s _ _ _ | assumption | exact (ma_up_n (by assumption)).trans (by assumption)) (Nat.le_of_ble_eq_true rfl) ?_
  refine c_join_fan (x := 2) (y := 3) (by first | assumption | exact (ma_up_n (by assumption)).trans (by assumption)) (by first | exact ma_up_s _ _ _ | assumption) hce (by constructor <;> omega) (by constructor <;> omega) (by decide) (by decide) ?_
  try rw [ma_up_up]
  refine ma_iincK (4) dX1_joinFan_87 rfl (by decide) rfl (by decide) ?_
  refine ma_goto 12 dX1_joinFan_90 rfl ?_
  show ma_J none mX1_joinFan (d + 1) 0 0 12 [some (vr c), some (vi s), some (vi 4), some (vi 2), some (vi 4), _, _] [] _ nx Q
  refine ma_iload dX1_joinFan_12 rfl ?_
  refine ma_iconst dX1_joinFan_14 ?_
  refine ma_rcmp_ge 93 dX1_joinFan_15 rfl (by decide) (by decide) (fun c15 => ?_) (fun c15 => absurd c15 (by decide))
  refine ma_iincK (3) dX1_joinFan_93 rfl (by decide) rfl (by decide) ?_
  refine ma_goto 2 dX1_joinFan_96 rfl ?_
  refine ma_iload_n dX1_joinFan_2 rfl ?_
  refine ma_iconst dX1_joinFan_3 ?_
  refine ma_rcmp_ge 99 dX1_joinFan_4 rfl (by decide) (by decide) (fun c4 => absurd c4 (by decide)) (fun c4 => ?_)
  refine ma_iload_n dX1_joinFan_7 rfl ?_
  refine ma_iconst dX1_joinFan_8 ?_
  refine ma_iaddK (4) dX1_joinFan_9 (by decide) ?_
  refine ma_istoreN dX1_joinFan_10 (by decide) rfl ?_
  show ma_J none mX1_joinFan (d + 1) 0 0 12 [some (vr c), some (vi s), some (vi 4), some (vi 3), some (vi 4), _, _] [] _ nx Q
  refine ma_iload dX1_joinFan_12 rfl ?_
  refine ma_iconst dX1_joinFan_14 ?_
  refine ma_rcmp_ge 93 dX1_joinFan_15 rfl (by decide) (by decide) (fun c15 => ?_) (fun c15 => absurd c15 (by decide))
  refine ma_iincK (4) dX1_joinFan_93 rfl (by decide) rfl (by decide) ?_
  refine ma_goto 2 dX1_joinFan_96 rfl ?_
  refine ma_iload_n dX1_joinFan_2 rfl ?_
  refine ma_iconst dX1_joinFan_3 ?_
  refine ma_rcmp_ge 99 dX1_joinFan_4 rfl (by decide) (by decide) (fun c4 => ?_) (fun c4 => absurd c4 (by decide))
  exact ma_vret dX1_joinFan_99 rfl K
