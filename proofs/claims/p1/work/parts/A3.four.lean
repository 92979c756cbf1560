/-- faces of tet one with the point, glued to tet other: told by face and corner -/
def gaP (G P : Int → Int) (one other p y : Int) : Prop := 0 ≤ G (4 * one + y / 4) ∧ G (4 * one + y / 4) / 32 = other ∧ y % 4 ≠ y / 4 ∧ P (4 * one + y % 4) = p
noncomputable def GA (G P : Int → Int) (one other p : Int) : Int := ct (gaP G P one other p) 16
theorem u4 {t p m : Int} {P : Int → Int} (ht : 1 ≤ t ∧ t ≤ 8) (hz : zA P (4 * t) p = 4) (hm : MK m (TS P p (4 * t))) (hp : pcn m = 4) {c c' : Int} (c0 : 0 ≤ c) (c1 : c < 4 * t) (c0' : 0 ≤ c') (c1' : c' < 4 * t) (e : P c = p) (e' : P c' = p) (ec : c / 4 = c' / 4) : c = c' := by
  obtain ⟨l, ln, ll, lm⟩ := ct_get (P := zP P p) (4 * t).toNat
  have hz' : ct (zP P p) (4 * t).toNat = 4 := hz
  rw [hz'] at ll
  have l4 : l.length = 4 := by omega
  match l, l4, ln, lm with
  | [a, b, x, y], _, ln, lm =>
    have mem : ∀ z, z = a ∨ z = b ∨ z = x ∨ z = y ↔ 0 ≤ z ∧ z < 4 * t ∧ P z = p := fun z => by
      have := lm z
      simp only [List.mem_cons, List.not_mem_nil, or_false] at this
      rw [this]
      unfold zP
      rw [Int.toNat_of_nonneg (by omega)]
    have ha := (mem a).mp (Or.inl rfl)
    have hb := (mem b).mp (Or.inr (Or.inl rfl))
    have hx := (mem x).mp (Or.inr (Or.inr (Or.inl rfl)))
    have hy := (mem y).mp (Or.inr (Or.inr (Or.inr rfl)))
    have em : m = bi_or (bi_or (bi_or (bi_shl 1 (a / 4)) (bi_shl 1 (b / 4))) (bi_shl 1 (x / 4))) (bi_shl 1 (y / 4)) := by
      refine (mk_eq hm (mk_or (mk_or (mk_or (mk_1 (j := a / 4) (by omega) (by omega)) (show 0 ≤ b / 4 by omega) (by omega)) (show 0 ≤ x / 4 by omega) (by omega)) (show 0 ≤ y / 4 by omega) (by omega))).mpr (fun i i0 i1 => ?_)
      constructor
      · rintro ⟨z, z0, z1, z2, z3⟩
        rcases (mem z).mpr ⟨z0, z1, z2⟩ with w | w | w | w
        · exact Or.inl (Or.inl (Or.inl (by rw [← z3, w])))
        · exact Or.inl (Or.inl (Or.inr (by rw [← z3, w])))
        · exact Or.inl (Or.inr (by rw [← z3, w]))
        · exact Or.inr (by rw [← z3, w])
      · rintro (((w | w) | w) | w)
        · exact ⟨a, ha.1, ha.2.1, ha.2.2, w.symm⟩
        · exact ⟨b, hb.1, hb.2.1, hb.2.2, w.symm⟩
        · exact ⟨x, hx.1, hx.2.1, hx.2.2, w.symm⟩
        · exact ⟨y, hy.1, hy.2.1, hy.2.2, w.symm⟩
    have pc := pc_4 (a := (a / 4).toNat) (b := (b / 4).toNat) (c := (x / 4).toNat) (e := (y / 4).toNat) (by omega) (by omega) (by omega) (by omega)
    rw [Int.toNat_of_nonneg (by omega), Int.toNat_of_nonneg (by omega), Int.toNat_of_nonneg (by omega), Int.toNat_of_nonneg (by omega), ← em] at pc
    obtain ⟨n1, n2, n3, n4, n5, n6⟩ := pc.mp hp
    have r1 : a / 4 ≠ b / 4 := fun z => n1 (by rw [z])
    have r2 : a / 4 ≠ x / 4 := fun z => n2 (by rw [z])
    have r3 : a / 4 ≠ y / 4 := fun z => n3 (by rw [z])
    have r4 : b / 4 ≠ x / 4 := fun z => n4 (by rw [z])
    have r5 : b / 4 ≠ y / 4 := fun z => n5 (by rw [z])
    have r6 : x / 4 ≠ y / 4 := fun z => n6 (by rw [z])
    rcases (mem c).mpr ⟨c0, c1, e⟩ with z | z | z | z <;> rcases (mem c').mpr ⟨c0', c1', e'⟩ with z' | z' | z' | z' <;> rw [z, z'] at ec ⊢
    · exact absurd ec r1
    · exact absurd ec r2
    · exact absurd ec r3
    · exact absurd ec.symm r1
    · exact absurd ec r4
    · exact absurd ec r5
    · exact absurd ec.symm r2
    · exact absurd ec.symm r4
    · exact absurd ec r6
    · exact absurd ec.symm r3
    · exact absurd ec.symm r5
    · exact absurd ec.symm r6
theorem c4_ga {t : Int} {G E P : Int → Int} {k : Int} (hG : VG t G) (h : C4 t G E P k) {one other : Int} (o0 : 0 ≤ one ∧ one < 8) (o1 : 0 ≤ other ∧ other < 8) (ne : one ≠ other) (h1 : TS P (P k) (4 * t) one) (h2 : TS P (P k) (4 * t) other) : GA G P one other (P k) = 1 := by
  have ht := hG.1
  obtain ⟨c, c0, c1, c2, c3⟩ := h1
  have q := q4 hG h (c := c) ⟨c0, c1⟩ c2
  obtain ⟨m, hm, hp⟩ := h.2.2.2
  have ns := (h.2.2.1 c c0 c1 c2 other o1.1 o1.2).mpr h2
  rcases ns with ⟨f, f0, f1, f2, f3, f4⟩ | z
  · have ec : 4 * one + c % 4 = c := by omega
    have : ct (gaP G P one other (P k)) 16 = ct (fun y => y = 4 * f + c % 4) 16 := by
      refine ct_c 16 (fun y y0 y1 => ?_)
      have y1' : y < 16 := y1
      constructor
      · rintro ⟨a1, a2, a3, a4⟩
        have e1 := u4 ht h.1 hm hp (c := 4 * one + y % 4) (c' := c) (by omega) (by omega) c0 c1 a4 c2 (by omega)
        have e2 : y % 4 = c % 4 := by omega
        by_cases z : y / 4 = f
        · omega
        · exfalso
          rw [← c3] at a2
          exact q.2 (y / 4) f (by omega) (by omega) (by rw [← e2]; exact Ne.symm a3) f0 f1 f2 z (by rw [c3] at a2 ⊢; rw [a2]; rw [c3] at f4; exact f4.symm)
      · intro e
        have e1 : y / 4 = f := by omega
        have e2 : y % 4 = c % 4 := by omega
        refine ⟨by rw [e1, ← c3]; exact f3, by rw [e1, ← c3]; exact f4, by rw [e1, e2]; exact Ne.symm f2, by rw [e2, ec]; exact c2⟩
    unfold GA
    rw [this, ct_1 (by omega), if_pos (by show 4 * f + c % 4 < 16; omega)]
  · exact absurd (by rw [← c3, z]) ne
theorem c4_of {t : Int} {G E P : Int → Int} {k m : Int} (hG : VG t G) (hB : BP t G E P) (hk : oC t k) (h1 : RD t G E P (P k)) (h2 : zA P (4 * t) (P k) = 4) (hm : MK m (TS P (P k) (4 * t))) (hp : pcn m = 4) (hg : ∀ one other, 0 ≤ one → one < 8 → 0 ≤ other → other < 8 → one ≠ other → TS P (P k) (4 * t) one → TS P (P k) (4 * t) other → GA G P one other (P k) = 1) : C4 t G E P k := by
  have ht := hG.1
  refine ⟨h2, ⟨h1.1, h1.2⟩, fun c c0 c1 hc i i0 i1 => ?_, m, hm, hp⟩
  constructor
  · rintro (⟨f, f0, f1, f2, f3, f4⟩ | z)
    · have hn : nC G f c = 4 * (G (4 * (c / 4) + f) / 32) + im (G (4 * (c / 4) + f) % 32) (c % 4) := by
        unfold nC
        rw [if_neg (fun z => z.elim (fun z => f2 z) (fun z => by omega))]
      have pp := pt_pt hG (k := 4 * (c / 4) + f) (by omega) (by omega) f3
      have w := im_in pp.2.2.2.2.1 pp.2.2.2.2.2.1 (m4 c).1 (m4 c).2
      have hn0 : 0 ≤ nC G f c := by rw [hn]; omega
      have inv := hB.2.2.1.2 c f ⟨c0, c1⟩ f0 f1 hn0
      refine ⟨nC G f c, hn0, ?_, by rw [inv]; exact hc, ?_⟩
      · rw [hn]; omega
      · rw [hn, ← f4]; omega
    · exact ⟨c, c0, c1, hc, z.symm⟩
  · intro hT
    by_cases z : i = c / 4
    · exact Or.inr z
    · left
      have g := hg (c / 4) i (by omega) (by omega) i0 i1 (Ne.symm z) ⟨c, c0, c1, hc, rfl⟩ hT
      obtain ⟨l, ln, ll, lm⟩ := ct_get (P := gaP G P (c / 4) i (P k)) 16
      have g' : ct (gaP G P (c / 4) i (P k)) 16 = 1 := g
      rw [g'] at ll
      match l, ll, lm with
      | [], ll, _ => exact absurd ll (by decide)
      | y :: r, _, lm =>
        obtain ⟨y0, y1, a1, a2, a3, a4⟩ := (lm y).mp (List.mem_cons_self ..)
        have y1' : y < 16 := y1
        have e1 := u4 ht h2 hm hp (c := 4 * (c / 4) + y % 4) (c' := c) (by omega) (by omega) c0 c1 a4 hc (by omega)
        exact ⟨y / 4, by omega, by omega, fun w => a3 (by omega), a1, a2⟩
theorem tb_and {m i j : Int} {S : Int → Prop} (h : MK m S) (i0 : 0 ≤ i) (i1 : i < 8) (j0 : 0 ≤ j) (j1 : j < 8) : (bi_and (bi_shr m i) (bi_shr m j) % 2 = 1 ↔ S i ∧ S j) := by
  have a := h.2.2 i i0 i1
  have b := h.2.2 j j0 j1
  unfold tb at a b
  have hm := h.1
  have hm1 := h.2.1
  have da : 0 ≤ m / 2 ^ i.toNat ∧ m / 2 ^ i.toNat ≤ 2147483647 := ⟨Int.ediv_nonneg hm (Int.le_of_lt (Int.pow_pos (by decide))), Int.le_trans (Int.ediv_le_self _ hm) (by omega)⟩
  have db : 0 ≤ m / 2 ^ j.toNat ∧ m / 2 ^ j.toNat ≤ 2147483647 := ⟨Int.ediv_nonneg hm (Int.le_of_lt (Int.pow_pos (by decide))), Int.le_trans (Int.ediv_le_self _ hm) (by omega)⟩
  rw [bn_shr hm (by omega) i0 (by omega), bn_shr hm (by omega) j0 (by omega), bn_and da.1 da.2 db.1 db.2, ← a, ← b]
  generalize m / 2 ^ i.toNat = x at da ⊢
  generalize m / 2 ^ j.toNat = y at db ⊢
  have e : (x.toNat &&& y.toNat) % 2 = 1 ↔ x.toNat % 2 = 1 ∧ y.toNat % 2 = 1 := by
    have := Nat.testBit_and x.toNat y.toNat 0
    rw [Nat.testBit_zero, Nat.testBit_zero, Nat.testBit_zero] at this
    rw [Bool.eq_iff_iff, Bool.and_eq_true, decide_eq_true_iff, decide_eq_true_iff, decide_eq_true_iff] at this
    exact this
  constructor
  · intro w
    have := e.mp (by omega)
    omega
  · intro w
    have := e.mpr (by omega)
    omega
set_option maxHeartbeats 2000000 in
theorem l_gA42 {h : ma_H} {a nx d : Nat} {t : Int} {G Aa E P F R : Int → Int} {Q : Option ma_V → ma_H → Nat → Prop} {I : Nat → Int} {one other p f is' : Int} (hM : h 73 = co 12 (mo I)) (ha : h a = ci 33 Aa) (hG : VG t G) (hA : AG t G Aa) (h86 : h 86 = ci 128 F) (h87 : h 87 = ci 32 R) (hB : BQ t G E P F R) (r1 : 0 ≤ one ∧ one < t) (r2 : 0 ≤ other ∧ other < 8) (rp : rg p) (f0 : 0 ≤ f ∧ f < 4) (g : 0 ≤ G (4 * one + f)) (eo : G (4 * one + f) / 32 = other) (KO : ∀ n, n = ct (gaP G P one other p) (4 * f + 4).toNat → ma_J none mX12_gluedAt (d + 1) 0 0 87 [some (vr 73), some (vr a), some (vi one), some (vi other), some (vi p), some (vi n), some (vi f), some (vi is'), some (vi 4)] [] h nx Q) :
    ∀ (m : Nat) (c : Int) (n : Int), (0 ≤ c) → (c ≤ 4) → (4 - c < m) → (n = ct (gaP G P one other p) (4 * f + c).toNat) → ma_J none mX12_gluedAt (d + 1) 0 0 42 [some (vr 73), some (vr a), some (vi one), some (vi other), some (vi p), some (vi n), some (vi f), some (vi is'), some (vi c)] [] h nx Q := by
  have ht := hG.1
  unfold rg at rp
  intro m
  induction m with
  | zero => intro c n c0 c1 c2 hn; omega
  | succ m ih =>
    intro c n c0 c1 c2 hn
    refine ma_iload dX12_gluedAt_42 rfl ?_
    refine ma_iconst dX12_gluedAt_44 ?_
    refine ma_rcmp_ge 87 dX12_gluedAt_45 rfl (by constructor <;> omega) (by constructor <;> omega) (fun c45 => ?_) (fun c45 => ?_)
    · -- 87
      have e4 : c = 4 := by omega
      subst e4
      exact KO n hn
    · -- 48
      refine ma_iload dX12_gluedAt_48 rfl ?_
      refine ma_iload dX12_gluedAt_50 rfl ?_
      refine ma_iload dX12_gluedAt_52 rfl ?_
      refine ma_rcmp_eq 77 dX12_gluedAt_54 rfl (by constructor <;> omega) (by constructor <;> omega) (fun c54 => ?_) (fun c54 => ?_)
      · -- 77
        refine ma_iconst dX12_gluedAt_77 ?_
        refine ma_iadd dX12_gluedAt_78 ?_
        refine ma_istoreN dX12_gluedAt_79 (by decide) rfl ?_
        refine ma_iincN dX12_gluedAt_81 rfl (by decide) rfl ?_
        refine ma_goto 42 dX12_gluedAt_84 rfl ?_
        exact ih (c + 1) _ (by omega) (by omega) (by omega) (by rw [show 4 * f + (c + 1) = 4 * f + c + 1 by omega, ct_n (P := gaP G P one other p) (by omega) (fun z => by have z3 := z.2.2.1; have e1 : (4 * f + c) / 4 = f := (by omega); have e2 : (4 * f + c) % 4 = c := (by omega); rw [e1, e2] at z3; exact z3 c54), hn]; omega)
      · -- 57
        refine ma_aload_n dX12_gluedAt_57 rfl ?_
        refine ma_getf dX12_gluedAt_58 fX12_51 (by assumption) (by rfl) ?_
        refine ma_iconst dX12_gluedAt_61 ?_
        refine ma_iload_n dX12_gluedAt_62 rfl ?_
        refine ma_imul dX12_gluedAt_63 ?_
        refine ma_iload dX12_gluedAt_64 rfl ?_
        refine ma_iadd dX12_gluedAt_66 ?_
        refine ma_iald dX12_gluedAt_67 (by assumption) (by omega) (by omega) (by omega) ?_
        have hr := bq_P hB (c := 4 * one + c) (by omega) (by omega)
        rw [hr.1]
        refine ma_iload dX12_gluedAt_68 rfl ?_
        refine ma_rcmp_ne 77 dX12_gluedAt_70 rfl (by constructor <;> omega) (by constructor <;> omega) (fun c70 => ?_) (fun c70 => ?_)
        · -- 77
          refine ma_iconst dX12_gluedAt_77 ?_
          refine ma_iadd dX12_gluedAt_78 ?_
          refine ma_istoreN dX12_gluedAt_79 (by decide) rfl ?_
          refine ma_iincN dX12_gluedAt_81 rfl (by decide) rfl ?_
          refine ma_goto 42 dX12_gluedAt_84 rfl ?_
          exact ih (c + 1) _ (by omega) (by omega) (by omega) (by rw [show 4 * f + (c + 1) = 4 * f + c + 1 by omega, ct_n (P := gaP G P one other p) (by omega) (fun z => by have z4 := z.2.2.2; have e1 : (4 * f + c) / 4 = f := (by omega); have e2 : (4 * f + c) % 4 = c := (by omega); rw [e2] at z4; exact c70 z4), hn]; omega)
        · -- 73
          refine ma_iconst dX12_gluedAt_73 ?_
          refine ma_goto 78 dX12_gluedAt_74 rfl ?_
          refine ma_iadd dX12_gluedAt_78 ?_
          refine ma_istoreN dX12_gluedAt_79 (by decide) rfl ?_
          refine ma_iincN dX12_gluedAt_81 rfl (by decide) rfl ?_
          refine ma_goto 42 dX12_gluedAt_84 rfl ?_
          exact ih (c + 1) _ (by omega) (by omega) (by omega) (by rw [show 4 * f + (c + 1) = 4 * f + c + 1 by omega, ct_y (P := gaP G P one other p) (by omega) (by have e1 : (4 * f + c) / 4 = f := (by omega); have e2 : (4 * f + c) % 4 = c := (by omega); exact ⟨by rw [e1]; exact g, by rw [e1]; exact eo, by rw [e1, e2]; exact c54, by rw [e2]; omega⟩), hn])
set_option maxHeartbeats 2000000 in
theorem l_gA6 {h : ma_H} {a nx d : Nat} {t : Int} {G Aa E P F R : Int → Int} {Q : Option ma_V → ma_H → Nat → Prop} {I : Nat → Int} {one other p : Int} (hM : h 73 = co 12 (mo I)) (ha : h a = ci 33 Aa) (hG : VG t G) (hA : AG t G Aa) (h86 : h 86 = ci 128 F) (h87 : h 87 = ci 32 R) (hB : BQ t G E P F R) (r1 : 0 ≤ one ∧ one < t) (r2 : 0 ≤ other ∧ other < 8) (rp : rg p) (K : Q (some (vi (GA G P one other p))) h nx) :
    ∀ (m : Nat) (f : Int) (n : Int) (x7 : Option ma_V) (x8 : Option ma_V), (0 ≤ f) → (f ≤ 4) → (4 - f < m) → (n = ct (gaP G P one other p) (4 * f).toNat) → ma_J none mX12_gluedAt (d + 1) 0 0 6 [some (vr 73), some (vr a), some (vi one), some (vi other), some (vi p), some (vi n), some (vi f), x7, x8] [] h nx Q := by
  have ht := hG.1
  intro m
  induction m with
  | zero => intro f n x7 x8 f0 f1 f2 hn; omega
  | succ m ih =>
    intro f n x7 x8 f0 f1 f2 hn
    refine ma_iload dX12_gluedAt_6 rfl ?_
    refine ma_iconst dX12_gluedAt_8 ?_
    refine ma_rcmp_ge 93 dX12_gluedAt_9 rfl (by constructor <;> omega) (by constructor <;> omega) (fun c9 => ?_) (fun c9 => ?_)
    · -- 93
      refine ma_iload dX12_gluedAt_93 rfl ?_
      have e4 : f = 4 := by omega
      rw [hn, e4]
      exact ma_iret dX12_gluedAt_95 rfl K
    · -- 12
      refine ma_aload_n dX12_gluedAt_12 rfl ?_
      refine ma_iload_n dX12_gluedAt_13 rfl ?_
      refine ma_iload dX12_gluedAt_14 rfl ?_
      refine ma_cS [_, _, _] dX12_gluedAt_16 wX12_glue lX12_150 tX12_glue (Nat.le_of_ble_eq_true rfl) ?_
      refine c_X12_glue ha (by constructor <;> omega) (by constructor <;> omega) ?_
      rw [show 1 + 4 * one + f = 1 + (4 * one + f) by omega, hA.2 (4 * one + f) (by omega) (by omega)]
      have hcn := cv_ne hG (k := 4 * one + f) (by omega) (by omega)
      have hv : vc (G (4 * one + f)) := by have := (vg_in hG (k := 4 * one + f) (by omega) (by omega)).2.2; unfold vc; omega
      have hcv := (cv_lt hv hv).2.2
      refine ma_istoreN dX12_gluedAt_19 (by decide) rfl ?_
      refine ma_iload dX12_gluedAt_21 rfl ?_
      refine ma_iconst dX12_gluedAt_23 ?_
      refine ma_rcmp_eq 87 dX12_gluedAt_24 rfl (by constructor <;> omega) (by decide) (fun c24 => ?_) (fun c24 => ?_)
      · -- 87
        refine ma_iincN dX12_gluedAt_87 rfl (by decide) rfl ?_
        refine ma_goto 6 dX12_gluedAt_90 rfl ?_
        exact ih (f + 1) n _ _ (by omega) (by omega) (by omega) (by rw [show 4 * (f + 1) = 4 * f + 4 by omega, ct_sk2 (P := gaP G P one other p) (a := 4 * f) (by omega) (by omega) (fun q q0 q1 z => by have e1 : q / 4 = f := (by omega); have z1 := z.1; have z2 := z.2.1; rw [e1] at z1 z2; have := hcn.mp c24; omega), hn])
      · -- 27
        have g : 0 ≤ G (4 * one + f) := by
          rcases Int.lt_or_le (G (4 * one + f)) 0 with z | z
          · exact absurd (hcn.mpr z) c24
          · exact z
        have cp := cv_p g (by have := (vg_in hG (k := 4 * one + f) (by omega) (by omega)).2.2; omega)
        refine ma_iload dX12_gluedAt_27 rfl ?_
        refine ma_bipush dX12_gluedAt_29 ?_
        refine ma_kdiv dX12_gluedAt_31 (by constructor <;> omega) (by constructor <;> omega) ?_
        rw [cp.2.1]
        refine ma_iload_n dX12_gluedAt_32 rfl ?_
        refine ma_rcmp_eq 39 dX12_gluedAt_33 rfl (by constructor <;> omega) (by constructor <;> omega) (fun c33 => ?_) (fun c33 => ?_)
        · -- 39
          refine ma_iconst dX12_gluedAt_39 ?_
          refine ma_istoreN dX12_gluedAt_40 (by decide) rfl ?_
          refine l_gA42 hM ha hG hA h86 h87 hB r1 r2 rp ⟨f0, by omega⟩ g c33 (fun n' hn' => ?_) 5 0 n (by omega) (by omega) (by omega) (by rw [Int.add_zero]; exact hn)
          refine ma_iincN dX12_gluedAt_87 rfl (by decide) rfl ?_
          refine ma_goto 6 dX12_gluedAt_90 rfl ?_
          exact ih (f + 1) n' _ _ (by omega) (by omega) (by omega) (by rw [show 4 * (f + 1) = 4 * f + 4 by omega]; exact hn')
        · -- 36
          refine ma_goto 87 dX12_gluedAt_36 rfl ?_
          refine ma_iincN dX12_gluedAt_87 rfl (by decide) rfl ?_
          refine ma_goto 6 dX12_gluedAt_90 rfl ?_
          exact ih (f + 1) n _ _ (by omega) (by omega) (by omega) (by rw [show 4 * (f + 1) = 4 * f + 4 by omega, ct_sk2 (P := gaP G P one other p) (a := 4 * f) (by omega) (by omega) (fun q q0 q1 z => by have e1 : q / 4 = f := (by omega); have z1 := z.1; have z2 := z.2.1; rw [e1] at z1 z2; exact c33 z2), hn])
theorem c_X12_gluedAt {h : ma_H} {a nx d : Nat} {t : Int} {G Aa E P F R : Int → Int} {Q : Option ma_V → ma_H → Nat → Prop} {I : Nat → Int} {one other p : Int} (hM : h 73 = co 12 (mo I)) (ha : h a = ci 33 Aa) (hG : VG t G) (hA : AG t G Aa) (h86 : h 86 = ci 128 F) (h87 : h 87 = ci 32 R) (hB : BQ t G E P F R) (r1 : 0 ≤ one ∧ one < t) (r2 : 0 ≤ other ∧ other < 8) (rp : rg p) (K : Q (some (vi (GA G P one other p))) h nx) : ma_Ct mX12_gluedAt (d + 1) 0 0 [vr 73, vr a, vi one, vi other, vi p] h nx Q := by
  have ht := hG.1
  refine ma_Ct.of (by decide +kernel) (Nat.le_of_ble_eq_true rfl) ?_
  refine ma_iconst dX12_gluedAt_0 ?_
  refine ma_istoreN dX12_gluedAt_1 (by decide) rfl ?_
  refine ma_iconst dX12_gluedAt_3 ?_
  refine ma_istoreN dX12_gluedAt_4 (by decide) rfl ?_
  exact l_gA6 hM ha hG hA h86 h87 hB r1 r2 rp K 5 0 0 _ _ (by omega) (by omega) (by omega) rfl
