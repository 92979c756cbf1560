/-- which side: -1 not told yet -/
def b1 (D : Int → Int) (x : Int) : Int := if D x = 1 then 1 else 0
theorem b1_b (D : Int → Int) (x : Int) : b1 D x = 0 ∨ b1 D x = 1 := by
  unfold b1
  split
  · exact Or.inr rfl
  · exact Or.inl rfl
def sdu (G D : Int → Int) (k : Int) : Int := (b1 D (k / 4) + 1 + od (G k % 32)) % 2
noncomputable def sdS (G : Int → Int) : Nat → Option (Int → Int)
  | 0 => some (uf (fun _ => -1) 0 0)
  | n + 1 => match sdS G n with
    | none => none
    | some D => if G n < 0 then some D else if D (G n / 32) = -1 then some (uf D (G n / 32) (sdu G D n)) else if D (G n / 32) = sdu G D n then some D else none
theorem sd_st {G D : Int → Int} {k : Int} (k0 : 0 ≤ k) (e : sdS G k.toNat = some D) : sdS G (k + 1).toNat = if G k < 0 then some D else if D (G k / 32) = -1 then some (uf D (G k / 32) (sdu G D k)) else if D (G k / 32) = sdu G D k then some D else none := by
  obtain ⟨n, rfl⟩ := Int.eq_ofNat_of_zero_le k0
  show sdS G (n + 1) = _
  replace e : sdS G n = some D := e
  rw [sdS, e]
theorem sd_no {G : Int → Int} {n : Nat} (e : sdS G n = none) : ∀ j : Nat, sdS G (n + j) = none
  | 0 => e
  | j + 1 => by
    show sdS G (n + j + 1) = none
    rw [sdS, sd_no e j]
theorem sd_none {G : Int → Int} {k m : Int} (k0 : 0 ≤ k) (km : k ≤ m) (e : sdS G k.toNat = none) : sdS G m.toNat = none := by
  have := sd_no e (m - k).toNat
  rw [show k.toNat + (m - k).toNat = m.toNat by omega] at this
  exact this
theorem sdu_b (G D : Int → Int) (k : Int) : sdu G D k = 0 ∨ sdu G D k = 1 := by
  unfold sdu
  omega
theorem sd_in {G : Int → Int} : ∀ (n : Nat) {D : Int → Int}, sdS G n = some D → ∀ x, D x = -1 ∨ D x = 0 ∨ D x = 1
  | 0, D, e, x => by
    replace e : some (uf (fun _ => -1) 0 0) = some D := e
    injection e with e
    rw [← e]
    unfold uf
    split
    · exact Or.inr (Or.inl rfl)
    · exact Or.inl rfl
  | n + 1, D, e, x => by
    rw [sdS] at e
    rcases ed : sdS G n with _ | D'
    · rw [ed] at e; cases e
    · rw [ed] at e
      have ih := sd_in n ed
      replace e : (if G n < 0 then some D' else if D' (G n / 32) = -1 then some (uf D' (G n / 32) (sdu G D' n)) else if D' (G n / 32) = sdu G D' n then some D' else none) = some D := e
      have u := sdu_b G D' n
      split at e
      · injection e with e; rw [← e]; exact ih x
      · split at e
        · injection e with e
          rw [← e]
          unfold uf
          split
          · exact Or.inr u
          · exact ih x
        · split at e
          · injection e with e; rw [← e]; exact ih x
          · cases e
/-- each one is reached from a lesser one -/
def TRE (t : Int) (G : Int → Int) : Prop := ∀ x, 0 < x → x < t → ∃ k, 0 ≤ k ∧ k < 4 * x ∧ 0 ≤ G k ∧ G k / 32 = x
theorem sd_told {G : Int → Int} : ∀ (n : Nat) {D : Int → Int}, sdS G n = some D → D 0 ≠ -1 ∧ ∀ k : Int, 0 ≤ k → k < n → 0 ≤ G k → D (G k / 32) ≠ -1
  | 0, D, e => by
    replace e : some (uf (fun _ => -1) 0 0) = some D := e
    injection e with e
    rw [← e]
    refine ⟨by rw [uf_s]; decide, fun k k0 k1 => by omega⟩
  | n + 1, D, e => by
    rw [sdS] at e
    rcases ed : sdS G n with _ | D'
    · rw [ed] at e; cases e
    · rw [ed] at e
      have ih := sd_told n ed
      replace e : (if G n < 0 then some D' else if D' (G n / 32) = -1 then some (uf D' (G n / 32) (sdu G D' n)) else if D' (G n / 32) = sdu G D' n then some D' else none) = some D := e
      have u := sdu_b G D' n
      have key : ∀ k : Int, 0 ≤ k → k < ((n + 1 : Nat) : Int) → k = n ∨ k < n := fun k _ _ => by omega
      split at e
      · rename_i g
        injection e with e; rw [← e]
        refine ⟨ih.1, fun k k0 k1 kg => ?_⟩
        rcases key k k0 k1 with z | z
        · rw [z] at kg; omega
        · exact ih.2 k k0 z kg
      · split at e
        · injection e with e
          rw [← e]
          have up : ∀ x, D' x ≠ -1 → uf D' (G n / 32) (sdu G D' n) x ≠ -1 := fun x hx => by
            unfold uf
            split
            · omega
            · exact hx
          refine ⟨up 0 ih.1, fun k k0 k1 kg => ?_⟩
          rcases key k k0 k1 with z | z
          · rw [z, uf_s]; omega
          · exact up _ (ih.2 k k0 z kg)
        · split at e
          · rename_i g g2 g3
            injection e with e; rw [← e]
            refine ⟨ih.1, fun k k0 k1 kg => ?_⟩
            rcases key k k0 k1 with z | z
            · rw [z]; exact g2
            · exact ih.2 k k0 z kg
          · cases e
theorem sd_tre {t : Int} {G D : Int → Int} (h : TRE t G) {k : Int} (k0 : 0 ≤ k) (k1 : k < 4 * t) (e : sdS G k.toNat = some D) : D (k / 4) ≠ -1 := by
  have a := sd_told k.toNat e
  rcases Int.lt_or_le 0 (k / 4) with z | z
  · obtain ⟨j, j0, j1, j2, j3⟩ := h (k / 4) z (by omega)
    rw [← j3]
    exact a.2 j j0 (by omega) j2
  · rw [show k / 4 = 0 by omega]
    exact a.1
theorem bx_2 {x y : Int} (hx : x = 0 ∨ x = 1) (hy : y = 0 ∨ y = 1) : bi_xor x y = (x + y) % 2 := by
  rcases hx with rfl | rfl <;> rcases hy with rfl | rfl <;> decide +kernel
theorem mk_bit {m : Int} {S : Int → Prop} (h : MK m S) {x : Int} (x0 : 0 ≤ x) (x1 : x < 8) : (bi_shr m x % 2 = 1 ↔ S x) ∧ (bi_shr m x % 2 = 0 ↔ ¬ S x) := by
  have a := h.2.2 x x0 x1
  rw [bn_shr h.1 (by have := h.2.1; omega) x0 (by omega)]
  unfold tb at a
  refine ⟨a, ?_⟩
  have b : m / 2 ^ x.toNat % 2 = 0 ∨ m / 2 ^ x.toNat % 2 = 1 := by omega
  constructor
  · intro z w
    have := a.mpr w
    omega
  · intro z
    rcases b with b | b
    · exact b
    · exact absurd (a.mp b) z
theorem mk_b1 {m : Int} {D : Int → Int} (h : MK m (fun x => D x = 1)) {x : Int} (x0 : 0 ≤ x) (x1 : x < 8) : bi_shr m x % 2 = b1 D x := by
  have kb := mk_bit h x0 x1
  unfold b1
  split
  · exact kb.1.mpr (by assumption)
  · exact kb.2.mpr (by assumption)
theorem mk_sh {m s x : Int} {S : Int → Prop} (h : MK m S) (hs : s = 0 ∨ s = 1) (x0 : 0 ≤ x) (x1 : x < 8) : MK (bi_or m (bi_shl s x)) (fun i => S i ∨ (i = x ∧ s = 1)) := by
  rcases hs with rfl | rfl
  · have z : bi_shl 0 x = 0 := pm_nat (P := fun x => bi_shl 0 x = 0) (n := 8) (by decide +kernel) x0 x1
    rw [z]
    exact mk_iff (mk_oo h mk_0) (fun i _ _ => by simp)
  · exact mk_iff (mk_or h x0 x1) (fun i _ _ => by simp)
set_option maxHeartbeats 2000000 in
theorem l_os6 {h : ma_H} {a g nx d : Nat} {t : Int} {G : Int → Int} {Q : Option ma_V → ma_H → Nat → Prop} (ha : h a = co 8 [vi t, vr g]) (hg : h g = ci 32 G) (hG : VG t G) (K1 : ∀ o D, (0 ≤ o ∧ o < 256) → sdS G (4 * t).toNat = some D → MK o (fun x => D x = 1) → Q (some (vi o)) h nx) (K0 : sdS G (4 * t).toNat = none → Q (some (vi (-1))) h nx) :
    ∀ (m : Nat) (k o r : Int) (D : Int → Int) (w4 w5 w6 : Option ma_V), 0 ≤ k → k ≤ 4 * t → 4 * t - k < m → sdS G k.toNat = some D → MK o (fun x => D x = 1) → MK r (fun x => D x ≠ -1) → ma_J none mX8_otherSide d 0 0 6 [some (vr a), some (vi o), some (vi r), some (vi k), w4, w5, w6] [] h nx Q := by
  have ht := hG.1
  intro m
  induction m with
  | zero => intro k o r D w4 w5 w6 k0 k1 km; omega
  | succ m ih =>
    intro k o r D w4 w5 w6 k0 k1 km ek ho hr
    have o1 := ho.1
    have o2 := ho.2.1
    have r1 := hr.1
    have r2 := hr.2.1
    refine ma_iload_n dX8_otherSide_6 rfl ?_
    refine ma_iconst dX8_otherSide_7 ?_
    refine ma_aload_n dX8_otherSide_8 rfl ?_
    refine ma_getf dX8_otherSide_9 fX8_9 (by assumption) (by rfl) ?_
    refine ma_imul dX8_otherSide_12 ?_
    refine ma_rcmp_ge 105 dX8_otherSide_13 rfl (by constructor <;> omega) (by constructor <;> omega) (fun c13 => ?_) (fun c13 => ?_)
    · -- 105
      refine ma_iload_n dX8_otherSide_105 rfl ?_
      have e : k = 4 * t := by omega
      subst e
      exact ma_iret dX8_otherSide_106 rfl (K1 o D ⟨o1, o2⟩ ek ho)
    · -- 16
      have gk := vg_in hG k0 (show k < 32 by omega)
      have gv := hG.2.1 k k0 (by omega)
      have st := sd_st k0 ek
      have dr := sd_in _ ek
      have kb := mk_bit ho (x := k / 4) (by omega) (by omega)
      refine ma_aload_n dX8_otherSide_16 rfl ?_
      refine ma_getf dX8_otherSide_17 fX8_15 (by assumption) (by rfl) ?_
      refine ma_iload_n dX8_otherSide_20 rfl ?_
      refine ma_iald dX8_otherSide_21 (by assumption) (by omega) (by omega) (by omega) ?_
      refine ma_istoreN dX8_otherSide_22 (by decide) rfl ?_
      refine ma_iload dX8_otherSide_24 rfl ?_
      refine ma_rif_ge 32 dX8_otherSide_26 rfl (by constructor <;> omega) (fun c26 => ?_) (fun c26 => ?_)
      · -- 32
        have ob := od_in (p := G k % 32) (by omega) (by omega)
        refine ma_iload dX8_otherSide_32 rfl ?_
        refine ma_iconst dX8_otherSide_34 ?_
        refine ma_kshr 32 dX8_otherSide_35 (by decide) (by constructor <;> omega) ?_
        refine ma_istoreN dX8_otherSide_36 (by decide) rfl ?_
        refine ma_iload_n dX8_otherSide_38 rfl ?_
        refine ma_iload_n dX8_otherSide_39 rfl ?_
        refine ma_iconst dX8_otherSide_40 ?_
        refine ma_kshr 4 dX8_otherSide_41 (by decide) (by constructor <;> omega) ?_
        refine ma_ishr dX8_otherSide_42 ?_
        refine ma_iconst dX8_otherSide_43 ?_
        refine ma_kand 1 2 dX8_otherSide_44 (by decide) (by decide +kernel) (by decide) ?_
        rw [mk_b1 ho (x := k / 4) (by omega) (by omega)]
        refine ma_iconst dX8_otherSide_45 ?_
        refine ma_ixor dX8_otherSide_46 ?_
        rw [bx_2 (b1_b _ _) (Or.inr rfl)]
        refine ma_getsN (j := 2) dX8_otherSide_47 (by decide) gX8_49 ?_
        refine ma_iload dX8_otherSide_50 rfl ?_
        refine ma_bipush dX8_otherSide_52 ?_
        refine ma_kand 5 32 dX8_otherSide_54 (by decide) (by decide +kernel) (by decide) ?_
        refine ma_tald (j := 2) (n := 24) dX8_otherSide_55 (by decide) tl_2 (by omega) (by omega) (by decide) ?_
        rw [show ma_tf 2 (G k % 32) = od (G k % 32) from rfl]
        refine ma_ixor dX8_otherSide_56 ?_
        rw [bx_2 (by omega) (by omega), show ((b1 D (k / 4) + 1) % 2 + od (G k % 32)) % 2 = sdu G D k by unfold sdu; omega]
        refine ma_istoreN dX8_otherSide_57 (by decide) rfl ?_
        refine ma_iload_n dX8_otherSide_59 rfl ?_
        refine ma_iload dX8_otherSide_60 rfl ?_
        refine ma_ishr dX8_otherSide_62 ?_
        refine ma_iconst dX8_otherSide_63 ?_
        refine ma_kand 1 2 dX8_otherSide_64 (by decide) (by decide +kernel) (by decide) ?_
        have rb := mk_bit hr (x := G k / 32) (by omega) (by omega)
        have tb_ := mk_bit ho (x := G k / 32) (by omega) (by omega)
        have du := sdu_b G D k
        refine ma_rif_ne 86 dX8_otherSide_65 rfl (by constructor <;> omega) (fun c65 => ?_) (fun c65 => ?_)
        · -- 86
          refine ma_iload_n dX8_otherSide_86 rfl ?_
          refine ma_iload dX8_otherSide_87 rfl ?_
          refine ma_ishr dX8_otherSide_89 ?_
          refine ma_iconst dX8_otherSide_90 ?_
          refine ma_kand 1 2 dX8_otherSide_91 (by decide) (by decide +kernel) (by decide) ?_
          refine ma_iload dX8_otherSide_92 rfl ?_
          have eqb : bi_shr o (G k / 32) % 2 = sdu G D k ↔ D (G k / 32) = sdu G D k := by
            have y := dr (G k / 32)
            have y2 := rb.1.mp (by omega)
            rcases y with y | y | y
            · exact absurd y y2
            · rw [tb_.2.mpr (by rw [y]; decide), y]
            · rw [tb_.1.mpr y, y]
          refine ma_rcmp_eq 99 dX8_otherSide_94 rfl (by constructor <;> omega) (by constructor <;> omega) (fun c94 => ?_) (fun c94 => ?_)
          · -- 99
            refine ma_iincN dX8_otherSide_99 rfl (by decide) rfl ?_
            refine ma_goto 6 dX8_otherSide_102 rfl ?_
            exact ih (k + 1) o r D _ _ _ (by omega) (by omega) (by omega) (by rw [st, if_neg (by omega), if_neg (rb.1.mp (by omega)), if_pos (eqb.mp c94)]) ho hr
          · -- 97
            refine ma_iconst dX8_otherSide_97 ?_
            exact ma_iret dX8_otherSide_98 rfl (K0 (sd_none (k := k + 1) (by omega) (by omega) (by rw [st, if_neg (by omega), if_neg (rb.1.mp (by omega)), if_neg (fun z => c94 (eqb.mpr z))])))
        · -- 68
          refine ma_iload_n dX8_otherSide_68 rfl ?_
          refine ma_iconst dX8_otherSide_69 ?_
          refine ma_iload dX8_otherSide_70 rfl ?_
          refine ma_ishl dX8_otherSide_72 ?_
          refine ma_ior dX8_otherSide_73 ?_
          refine ma_istore_nN dX8_otherSide_74 (by decide) rfl ?_
          refine ma_iload_n dX8_otherSide_75 rfl ?_
          refine ma_iload dX8_otherSide_76 rfl ?_
          refine ma_iload dX8_otherSide_78 rfl ?_
          refine ma_ishl dX8_otherSide_80 ?_
          refine ma_ior dX8_otherSide_81 ?_
          refine ma_istore_nN dX8_otherSide_82 (by decide) rfl ?_
          refine ma_goto 99 dX8_otherSide_83 rfl ?_
          refine ma_iincN dX8_otherSide_99 rfl (by decide) rfl ?_
          refine ma_goto 6 dX8_otherSide_102 rfl ?_
          have y1 : D (G k / 32) = -1 := Classical.not_not.mp (rb.2.mp c65)
          refine ih (k + 1) _ _ (uf D (G k / 32) (sdu G D k)) _ _ _ (by omega) (by omega) (by omega) (by rw [st, if_neg (by omega), if_pos y1]) (mk_iff (mk_sh ho du (by omega) (by omega)) (fun i _ _ => ?_)) (mk_iff (mk_or hr (by omega) (by omega)) (fun i _ _ => ?_))
          · unfold uf
            split
            · rename_i e; rw [e, y1]; simp
            · rename_i e; simp [e]
          · unfold uf
            split
            · rename_i e; simp [e]; omega
            · rename_i e; simp [e]
      · -- 29
        refine ma_goto 99 dX8_otherSide_29 rfl ?_
        refine ma_iincN dX8_otherSide_99 rfl (by decide) rfl ?_
        refine ma_goto 6 dX8_otherSide_102 rfl ?_
        exact ih (k + 1) o r D _ _ _ (by omega) (by omega) (by omega) (by rw [st, if_pos (by omega)]) ho hr
theorem c_X8_otherSide {h : ma_H} {a g nx d : Nat} {t : Int} {G : Int → Int} {Q : Option ma_V → ma_H → Nat → Prop} (ha : h a = co 8 [vi t, vr g]) (hg : h g = ci 32 G) (hG : VG t G) (K1 : ∀ o D, (0 ≤ o ∧ o < 256) → sdS G (4 * t).toNat = some D → MK o (fun x => D x = 1) → Q (some (vi o)) h nx) (K0 : sdS G (4 * t).toNat = none → Q (some (vi (-1))) h nx) : ma_Ct mX8_otherSide d 0 0 [vr a] h nx Q := by
  have ht := hG.1
  refine ma_Ct.of (by decide +kernel) (Nat.le_of_ble_eq_true rfl) ?_
  refine ma_iconst dX8_otherSide_0 ?_
  refine ma_istore_nN dX8_otherSide_1 (by decide) rfl ?_
  refine ma_iconst dX8_otherSide_2 ?_
  refine ma_istore_nN dX8_otherSide_3 (by decide) rfl ?_
  refine ma_iconst dX8_otherSide_4 ?_
  refine ma_istore_nN dX8_otherSide_5 (by decide) rfl ?_
  refine l_os6 ha hg hG K1 K0 33 0 0 1 _ _ _ _ (by decide) (by omega) (by omega) rfl (mk_iff mk_0 (fun i _ _ => ?_)) (mk_iff (mk_1 (j := 0) (by decide) (by decide)) (fun i _ _ => ?_))
  · unfold uf
    split <;> simp
  · unfold uf
    split <;> simp [*]
theorem c_X11_sides {h : ma_H} {nx d : Nat} {t q0 sz : Int} {G T : Int → Int} {Q : Option ma_V → ma_H → Nat → Prop} (hx : h 0 = co 11 (xo q0)) (h1 : h 1 = co 8 [vi t, vr 2]) (h2 : h 2 = ci 32 G) (hG : VG t G) (K1 : ∀ o D, sdS G (4 * t).toNat = some D → MK o (fun x => D x = 1) → Q (some (vi 1)) (tq h 1 (uf T 0 o)) nx) (K0 : sdS G (4 * t).toNat = none → Q (some (vi 0)) (tq h 0 T) nx) : ma_Ct mX11_sides (d + 1) 0 0 [vr 0] (tq h sz T) nx Q := by
  refine ma_Ct.of (by decide +kernel) (Nat.le_of_ble_eq_true rfl) ?_
  refine ma_aload_n dX11_sides_0 rfl ?_
  refine ma_getf dX11_sides_1 fX11_10 (by first | exact tq_31 | exact ((tq_n (by decide) (by decide)).trans hx) | exact ((tq_n (by decide) (by decide)).trans h1) | exact ((tq_n (by decide) (by decide)).trans h2)) (by rfl) ?_
  refine ma_cV [] dX11_sides_4 wX8_otherSide lX11_231 iX8_otherSide sX8_otherSide rfl (by first | exact tq_31 | exact ((tq_n (by decide) (by decide)).trans hx) | exact ((tq_n (by decide) (by decide)).trans h1) | exact ((tq_n (by decide) (by decide)).trans h2)) (Nat.le_of_ble_eq_true rfl) ?_
  refine c_X8_otherSide ((tq_n (by decide) (by decide)).trans h1) ((tq_n (by decide) (by decide)).trans h2) hG (fun o D ob eD ho => ?_) (fun eD => ?_)
  · -- i
    refine ma_istore_nN dX11_sides_7 (by decide) rfl ?_
    refine ma_aload_n dX11_sides_8 rfl ?_
    refine ma_getf dX11_sides_9 fX11_40 (by first | exact tq_31 | exact ((tq_n (by decide) (by decide)).trans hx) | exact ((tq_n (by decide) (by decide)).trans h1) | exact ((tq_n (by decide) (by decide)).trans h2)) (by rfl) ?_
    refine ma_cV [] dX11_sides_12 wX9_clear lX11_141 iX9_clear sX9_clear rfl (by first | exact tq_31 | exact ((tq_n (by decide) (by decide)).trans hx) | exact ((tq_n (by decide) (by decide)).trans h1) | exact ((tq_n (by decide) (by decide)).trans h2)) (Nat.le_of_ble_eq_true rfl) ?_
    refine q_clear ?_
    refine ma_iload_n dX11_sides_15 rfl ?_
    refine ma_rif_ge 21 dX11_sides_16 rfl (by constructor <;> omega) (fun c16 => ?_) (fun c16 => ?_)
    · -- 21
      refine ma_aload_n dX11_sides_21 rfl ?_
      refine ma_getf dX11_sides_22 fX11_40 (by first | exact tq_31 | exact ((tq_n (by decide) (by decide)).trans hx) | exact ((tq_n (by decide) (by decide)).trans h1) | exact ((tq_n (by decide) (by decide)).trans h2)) (by rfl) ?_
      refine ma_iload_n dX11_sides_25 rfl ?_
      refine ma_i2l dX11_sides_26 ?_
      refine ma_cV [_] dX11_sides_27 wX9_add lX11_144 iX9_add sX9_add rfl (by first | exact tq_31 | exact ((tq_n (by decide) (by decide)).trans hx) | exact ((tq_n (by decide) (by decide)).trans h1) | exact ((tq_n (by decide) (by decide)).trans h2)) (Nat.le_of_ble_eq_true rfl) ?_
      refine q_add (by decide) (iw_of (by have := ho.1; omega) (by have := ho.2.1; omega)) ?_
      refine ma_iconst dX11_sides_30 ?_
      exact ma_iret dX11_sides_31 rfl (K1 o D eD ho)
    · -- 19
      refine ma_iconst dX11_sides_19 ?_
      first | exact ma_iret dX11_sides_20 rfl (K0 eD) | (exfalso; have := ho.1; omega)
  · -- k-1
    refine ma_istore_nN dX11_sides_7 (by decide) rfl ?_
    refine ma_aload_n dX11_sides_8 rfl ?_
    refine ma_getf dX11_sides_9 fX11_40 (by first | exact tq_31 | exact ((tq_n (by decide) (by decide)).trans hx) | exact ((tq_n (by decide) (by decide)).trans h1) | exact ((tq_n (by decide) (by decide)).trans h2)) (by rfl) ?_
    refine ma_cV [] dX11_sides_12 wX9_clear lX11_141 iX9_clear sX9_clear rfl (by first | exact tq_31 | exact ((tq_n (by decide) (by decide)).trans hx) | exact ((tq_n (by decide) (by decide)).trans h1) | exact ((tq_n (by decide) (by decide)).trans h2)) (Nat.le_of_ble_eq_true rfl) ?_
    refine q_clear ?_
    refine ma_iload_n dX11_sides_15 rfl ?_
    refine ma_rif_ge 21 dX11_sides_16 rfl (by decide) (fun c16 => absurd c16 (by decide)) (fun c16 => ?_)
    refine ma_iconst dX11_sides_19 ?_
    first | exact ma_iret dX11_sides_20 rfl (K0 eD) | (exfalso; have := ho.1; omega)
