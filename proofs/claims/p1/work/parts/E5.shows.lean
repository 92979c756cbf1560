theorem q_clear {h : ma_H} {nx d : Nat} {s : Int} {T : Int → Int} {Q : Option ma_V → ma_H → Nat → Prop} (K : Q none (tq h 0 T) nx) : ma_Ct mX9_clear d 0 0 [vr 31] (tq h s T) nx Q := by
  refine c_X9_clear tq_31 ?_
  rw [tq_p]
  exact K
theorem q_add {h : ma_H} {nx d : Nat} {s v w : Int} {T : Int → Int} {Q : Option ma_V → ma_H → Nat → Prop} (hs : 0 ≤ s ∧ s < 65) (e : v = w) (K : Q none (tq h (s + 1) (uf T s w)) nx) : ma_Ct mX9_add d 0 0 [vr 31, vl v] (tq h s T) nx Q := by
  subst e
  refine c_X9_add tq_31 tq_32 (by decide) hs ?_
  rw [tq_q]
  exact K
theorem q_flag {h : ma_H} {nx d : Nat} {s x : Int} {T : Int → Int} {Q : Option ma_V → ma_H → Nat → Prop} (hs : 0 ≤ s ∧ s < 65) (hx : x = 0 ∨ x = 1) (K : Q none (tq h (s + 1) (uf T s x)) nx) : ma_Ct mX9_addFlag (d + 1) 0 0 [vr 31, vi x] (tq h s T) nx Q := by
  refine c_X9_addFlag tq_31 tq_32 (by decide) hs hx ?_
  rw [tq_q]
  exact K
/-- what a solid's text is -/
noncomputable def shs (G : Int → Int) : Nat → Int
  | 0 => 1
  | n + 1 => if (n : Int) < pt G n then shs G n + 4 else shs G n
def sh4 (T : Int → Int) (s k c : Int) : Int → Int := uf (uf (uf (uf T s (48 + k / 4)) (s + 1) (48 + k % 4)) (s + 1 + 1) (48 + c / 32)) (s + 1 + 1 + 1) (97 + c % 32)
noncomputable def shT (t : Int) (G T : Int → Int) : Nat → Int → Int
  | 0 => uf T 0 (48 + t)
  | n + 1 => if (n : Int) < pt G n then sh4 (shT t G T n) (shs G n) n (G n) else shT t G T n
theorem sh_ye {t : Int} {G T : Int → Int} {k : Int} (k0 : 0 ≤ k) (h : k < pt G k) : shs G (k + 1).toNat = shs G k.toNat + 4 ∧ shT t G T (k + 1).toNat = sh4 (shT t G T k.toNat) (shs G k.toNat) k (G k) := by
  obtain ⟨n, rfl⟩ := Int.eq_ofNat_of_zero_le k0
  show shs G (n + 1) = _ ∧ shT t G T (n + 1) = _
  rw [shs, shT, if_pos h, if_pos h]
  exact ⟨rfl, rfl⟩
theorem sh_no {t : Int} {G T : Int → Int} {k : Int} (k0 : 0 ≤ k) (h : ¬ k < pt G k) : shs G (k + 1).toNat = shs G k.toNat ∧ shT t G T (k + 1).toNat = shT t G T k.toNat := by
  obtain ⟨n, rfl⟩ := Int.eq_ofNat_of_zero_le k0
  show shs G (n + 1) = _ ∧ shT t G T (n + 1) = _
  rw [shs, shT, if_neg h, if_neg h]
  exact ⟨rfl, rfl⟩
theorem sh_ct (G : Int → Int) : ∀ n : Nat, shs G n = 1 + 4 * ct (fun k => k < pt G k) n
  | 0 => rfl
  | n + 1 => by
    have c := ct_sn (P := fun k => k < pt G k) n
    have ih := sh_ct G n
    rw [shs]
    by_cases h : (n : Int) < pt G n
    · rw [if_pos h, c.1 h]; omega
    · rw [if_neg h, c.2 h]; omega
theorem sh_same {t : Int} {G T R : Int → Int} : ∀ n : Nat, 1 ≤ shs G n ∧ ∀ j, 0 ≤ j → j < shs G n → shT t G T n j = shT t G R n j
  | 0 => ⟨by show (1 : Int) ≤ 1; decide, fun j j0 j1 => by
      have e : j = 0 := by
        have : j < 1 := j1
        omega
      subst e
      show uf T 0 (48 + t) 0 = uf R 0 (48 + t) 0
      rw [uf_s, uf_s]⟩
  | n + 1 => by
    have ih := sh_same (t := t) (G := G) (T := T) (R := R) n
    rw [shs, shT, shT]
    by_cases h : (n : Int) < pt G n
    · rw [if_pos h, if_pos h, if_pos h]
      refine ⟨by omega, fun j j0 j1 => ?_⟩
      unfold sh4
      unfold uf
      split
      · rfl
      · split
        · rfl
        · split
          · rfl
          · split
            · rfl
            · exact ih.2 j j0 (by omega)
    · rw [if_neg h, if_neg h, if_neg h]
      exact ih
/-- pairs: no more than half -/
theorem pr_16 {t : Int} {G : Int → Int} (hG : VG t G) : ∀ n : Nat, n ≤ 32 → ct (fun k => k < pt G k) n ≤ 16 := by
  intro n hn
  rcases Int.lt_or_le 16 (ct (fun k => k < pt G k) n) with c | c
  · exfalso
    have ex : ∀ m : Nat, m < 17 → ∃ i : Int, 0 ≤ i ∧ i < (n : Int) ∧ i < pt G i ∧ ct (fun k => k < pt G k) i.toNat = m := by
      intro m hm
      have e : ∀ i : Int, sty (fun k => ¬ k < pt G k) i = ct (fun k => k < pt G k) i.toNat := fun i => ct_c _ (fun q _ _ => by simp)
      obtain ⟨i, i0, i1, i2, i3⟩ := sty_sur (S := fun k => ¬ k < pt G k) n m (by omega) (by rw [e]; show (m : Int) < ct _ n; omega)
      exact ⟨i, i0, i1, by simpa using i2, by rw [← e]; exact i3⟩
    have hp : ∀ i : Int, 0 ≤ i → i < (n : Int) → i < pt G i → i < 4 * t ∧ 0 ≤ G i ∧ pt G i < 4 * t ∧ pt G (pt G i) = i := by
      intro i i0 i1 i2
      have g0 : 0 ≤ G i := by
        rcases Int.lt_or_le (G i) 0 with z | z
        · unfold pt at i2
          rw [if_pos z] at i2
          omega
        · exact z
      have i4 : i < 4 * t := by
        rcases Int.lt_or_le i (4 * t) with z | z
        · exact z
        · have := hG.2.2 i z (by omega)
          omega
      have pp := pt_pt hG i0 i4 g0
      exact ⟨i4, g0, pp.2.1, pp.2.2.2.2.2.2.2.1⟩
    have ch : ∃ f : Nat → Int, ∀ m : Nat, m < 17 → 0 ≤ f m ∧ f m < (n : Int) ∧ f m < pt G (f m) ∧ ct (fun k => k < pt G k) (f m).toNat = m := by
      refine ⟨fun m => if h : m < 17 then (ex m h).choose else 0, fun m hm => ?_⟩
      simp only [hm, dif_pos]
      exact (ex m hm).choose_spec
    obtain ⟨f, hf⟩ := ch
    have ht := hG.1
    have := bf_pig 32 34 (fun i => if i % 2 = 0 then (f (i / 2)).toNat else (pt G (f (i / 2))).toNat) (fun i hi => ?_) (fun i j hi hj e => ?_)
    · omega
    · have a := hf (i / 2) (by omega)
      have b := hp _ a.1 a.2.1 a.2.2.1
      show (if i % 2 = 0 then (f (i / 2)).toNat else (pt G (f (i / 2))).toNat) < 32
      split <;> omega
    · have a := hf (i / 2) (by omega)
      have b := hp _ a.1 a.2.1 a.2.2.1
      have a' := hf (j / 2) (by omega)
      have b' := hp _ a'.1 a'.2.1 a'.2.2.1
      have key : f (i / 2) = f (j / 2) → i / 2 = j / 2 := fun z => by
        have z1 := a.2.2.2
        rw [z, a'.2.2.2] at z1
        omega
      replace e : (if i % 2 = 0 then (f (i / 2)).toNat else (pt G (f (i / 2))).toNat) = (if j % 2 = 0 then (f (j / 2)).toNat else (pt G (f (j / 2))).toNat) := e
      by_cases p : i % 2 = 0
      · by_cases q : j % 2 = 0
        · rw [if_pos p, if_pos q] at e
          have := key (by omega)
          omega
        · rw [if_pos p, if_neg q] at e
          have e2 : f (i / 2) = pt G (f (j / 2)) := by omega
          have e3 : pt G (f (i / 2)) = f (j / 2) := by rw [e2]; exact b'.2.2.2
          omega
      · by_cases q : j % 2 = 0
        · rw [if_neg p, if_pos q] at e
          have e2 : pt G (f (i / 2)) = f (j / 2) := by omega
          have e3 : pt G (f (j / 2)) = f (i / 2) := by rw [← e2]; exact b.2.2.2
          omega
        · rw [if_neg p, if_neg q] at e
          have e2 : pt G (f (i / 2)) = pt G (f (j / 2)) := by omega
          have e3 : f (i / 2) = f (j / 2) := by rw [← b.2.2.2, e2]; exact b'.2.2.2
          have := key e3
          omega
  · exact c
theorem sh_in {t : Int} {G : Int → Int} (hG : VG t G) {k : Int} (k0 : 0 ≤ k) (k1 : k ≤ 32) : 1 ≤ shs G k.toNat ∧ shs G k.toNat ≤ 65 := by
  have a := pr_16 hG k.toNat (by omega)
  have b := ct_in (fun k => k < pt G k) k.toNat
  rw [sh_ct]
  omega
theorem pt_r {t : Int} {G : Int → Int} (hG : VG t G) {k : Int} (k0 : 0 ≤ k) (k1 : k < 4 * t) : -1 ≤ pt G k ∧ pt G k < 32 := by
  have ht := hG.1
  rcases Int.lt_or_le (G k) 0 with z | z
  · unfold pt; rw [if_pos z]; omega
  · have := pt_pt hG k0 k1 z
    omega
set_option maxHeartbeats 2000000 in
theorem l_sh27 {h : ma_H} {nx d : Nat} {t q0 : Int} {G T0 : Int → Int} {Q : Option ma_V → ma_H → Nat → Prop} (hx : h 0 = co 11 (xo q0)) (h1 : h 1 = co 8 [vi t, vr 2]) (h2 : h 2 = ci 32 G) (hG : VG t G) (K : Q (some (vi (shs G (4 * t).toNat))) (tq h (shs G (4 * t).toNat) (shT t G T0 (4 * t).toNat)) nx) :
    ∀ (m : Nat) (k s : Int) (T : Int → Int), 0 ≤ k → k ≤ 4 * t → 4 * t - k < m → s = shs G k.toNat → T = shT t G T0 k.toNat → ma_J none mX11_shows (d + 1) 0 0 27 [some (vr 0), some (vi k)] [] (tq h s T) nx Q := by
  have ht := hG.1
  intro m
  induction m with
  | zero => intro k s T k0 k1 km; omega
  | succ m ih =>
    intro k s T k0 k1 km es eT
    have sb : 1 ≤ s ∧ s ≤ 65 ∧ (k < pt G k → k < 4 * t → s + 4 ≤ 65) := by
      have a := sh_in hG k0 (by omega)
      refine ⟨by omega, by omega, fun z z2 => ?_⟩
      have b := sh_in hG (k := k + 1) (by omega) (by omega)
      have c := (sh_ye (t := t) (T := T0) k0 z).1
      omega
    refine ma_iload_n dX11_shows_27 rfl ?_
    refine ma_iconst dX11_shows_28 ?_
    refine ma_aload_n dX11_shows_29 rfl ?_
    refine ma_getf dX11_shows_30 fX11_10 (by first | exact tq_31 | exact ((tq_n (by decide) (by decide)).trans hx) | exact ((tq_n (by decide) (by decide)).trans h1) | exact ((tq_n (by decide) (by decide)).trans h2)) (by rfl) ?_
    refine ma_getf dX11_shows_33 fX11_123 (by first | exact tq_31 | exact ((tq_n (by decide) (by decide)).trans hx) | exact ((tq_n (by decide) (by decide)).trans h1) | exact ((tq_n (by decide) (by decide)).trans h2)) (by rfl) ?_
    refine ma_imul dX11_shows_36 ?_
    refine ma_rcmp_ge 131 dX11_shows_37 rfl (by constructor <;> omega) (by constructor <;> omega) (fun c37 => ?_) (fun c37 => ?_)
    · -- 131
      refine ma_aload_n dX11_shows_131 rfl ?_
      refine ma_getf dX11_shows_132 fX11_40 (by first | exact tq_31 | exact ((tq_n (by decide) (by decide)).trans hx) | exact ((tq_n (by decide) (by decide)).trans h1) | exact ((tq_n (by decide) (by decide)).trans h2)) (by rfl) ?_
      refine ma_getf dX11_shows_135 fX11_151 (by first | exact tq_31 | exact ((tq_n (by decide) (by decide)).trans hx) | exact ((tq_n (by decide) (by decide)).trans h1) | exact ((tq_n (by decide) (by decide)).trans h2)) (by rfl) ?_
      have e : k = 4 * t := by omega
      subst e
      rw [es, eT]
      exact ma_iret dX11_shows_138 rfl K
    · -- 40
      have gk := vg_in hG k0 (show k < 32 by omega)
      refine ma_aload_n dX11_shows_40 rfl ?_
      refine ma_getf dX11_shows_41 fX11_10 (by first | exact tq_31 | exact ((tq_n (by decide) (by decide)).trans hx) | exact ((tq_n (by decide) (by decide)).trans h1) | exact ((tq_n (by decide) (by decide)).trans h2)) (by rfl) ?_
      refine ma_iload_n dX11_shows_44 rfl ?_
      refine ma_cV [_] dX11_shows_45 wX8_partner lX11_148 iX8_partner sX8_partner rfl (by first | exact tq_31 | exact ((tq_n (by decide) (by decide)).trans hx) | exact ((tq_n (by decide) (by decide)).trans h1) | exact ((tq_n (by decide) (by decide)).trans h2)) (Nat.le_of_ble_eq_true rfl) ?_
      refine c_X8_partner ((tq_n (by decide) (by decide)).trans h1) ((tq_n (by decide) (by decide)).trans h2) (by omega) gk.2.2 ?_
      have pk := pt_r hG k0 (show k < 4 * t by omega)
      refine ma_iload_n dX11_shows_48 rfl ?_
      refine ma_rcmp_le 125 dX11_shows_49 rfl (by constructor <;> omega) (by constructor <;> omega) (fun c49 => ?_) (fun c49 => ?_)
      · -- 125
        refine ma_iincN dX11_shows_125 rfl (by decide) rfl ?_
        refine ma_goto 27 dX11_shows_128 rfl ?_
        have sn := sh_no (t := t) (T := T0) k0 (show ¬ k < pt G k by omega)
        exact ih (k + 1) _ _ (by omega) (by omega) (by omega) (es.trans sn.1.symm) (eT.trans sn.2.symm)
      · -- 52
        refine ma_aload_n dX11_shows_52 rfl ?_
        refine ma_getf dX11_shows_53 fX11_40 (by first | exact tq_31 | exact ((tq_n (by decide) (by decide)).trans hx) | exact ((tq_n (by decide) (by decide)).trans h1) | exact ((tq_n (by decide) (by decide)).trans h2)) (by rfl) ?_
        refine ma_bipush dX11_shows_56 ?_
        refine ma_iload_n dX11_shows_58 rfl ?_
        refine ma_iconst dX11_shows_59 ?_
        refine ma_kshr 4 dX11_shows_60 (by decide) (by constructor <;> omega) ?_
        refine ma_iadd dX11_shows_61 ?_
        refine ma_i2l dX11_shows_62 ?_
        refine ma_cV [_] dX11_shows_63 wX9_add lX11_144 iX9_add sX9_add rfl (by first | exact tq_31 | exact ((tq_n (by decide) (by decide)).trans hx) | exact ((tq_n (by decide) (by decide)).trans h1) | exact ((tq_n (by decide) (by decide)).trans h2)) (Nat.le_of_ble_eq_true rfl) ?_
        refine q_add (by omega) (iw_of (by omega) (by omega)) ?_
        refine ma_aload_n dX11_shows_66 rfl ?_
        refine ma_getf dX11_shows_67 fX11_40 (by first | exact tq_31 | exact ((tq_n (by decide) (by decide)).trans hx) | exact ((tq_n (by decide) (by decide)).trans h1) | exact ((tq_n (by decide) (by decide)).trans h2)) (by rfl) ?_
        refine ma_bipush dX11_shows_70 ?_
        refine ma_iload_n dX11_shows_72 rfl ?_
        refine ma_iconst dX11_shows_73 ?_
        refine ma_kand 2 4 dX11_shows_74 (by decide) (by decide +kernel) (by decide) ?_
        refine ma_iadd dX11_shows_75 ?_
        refine ma_i2l dX11_shows_76 ?_
        refine ma_cV [_] dX11_shows_77 wX9_add lX11_144 iX9_add sX9_add rfl (by first | exact tq_31 | exact ((tq_n (by decide) (by decide)).trans hx) | exact ((tq_n (by decide) (by decide)).trans h1) | exact ((tq_n (by decide) (by decide)).trans h2)) (Nat.le_of_ble_eq_true rfl) ?_
        refine q_add (by omega) (iw_of (by omega) (by omega)) ?_
        refine ma_aload_n dX11_shows_80 rfl ?_
        refine ma_getf dX11_shows_81 fX11_40 (by first | exact tq_31 | exact ((tq_n (by decide) (by decide)).trans hx) | exact ((tq_n (by decide) (by decide)).trans h1) | exact ((tq_n (by decide) (by decide)).trans h2)) (by rfl) ?_
        refine ma_bipush dX11_shows_84 ?_
        refine ma_aload_n dX11_shows_86 rfl ?_
        refine ma_getf dX11_shows_87 fX11_10 (by first | exact tq_31 | exact ((tq_n (by decide) (by decide)).trans hx) | exact ((tq_n (by decide) (by decide)).trans h1) | exact ((tq_n (by decide) (by decide)).trans h2)) (by rfl) ?_
        refine ma_getf dX11_shows_90 fX11_134 (by first | exact tq_31 | exact ((tq_n (by decide) (by decide)).trans hx) | exact ((tq_n (by decide) (by decide)).trans h1) | exact ((tq_n (by decide) (by decide)).trans h2)) (by rfl) ?_
        refine ma_iload_n dX11_shows_93 rfl ?_
        refine ma_iald dX11_shows_94 (by first | exact tq_31 | exact ((tq_n (by decide) (by decide)).trans hx) | exact ((tq_n (by decide) (by decide)).trans h1) | exact ((tq_n (by decide) (by decide)).trans h2)) (by omega) (by omega) (by omega) ?_
        refine ma_iconst dX11_shows_95 ?_
        refine ma_kshr 32 dX11_shows_96 (by decide) (by constructor <;> omega) ?_
        refine ma_iadd dX11_shows_97 ?_
        refine ma_i2l dX11_shows_98 ?_
        refine ma_cV [_] dX11_shows_99 wX9_add lX11_144 iX9_add sX9_add rfl (by first | exact tq_31 | exact ((tq_n (by decide) (by decide)).trans hx) | exact ((tq_n (by decide) (by decide)).trans h1) | exact ((tq_n (by decide) (by decide)).trans h2)) (Nat.le_of_ble_eq_true rfl) ?_
        refine q_add (by omega) (iw_of (by omega) (by omega)) ?_
        refine ma_aload_n dX11_shows_102 rfl ?_
        refine ma_getf dX11_shows_103 fX11_40 (by first | exact tq_31 | exact ((tq_n (by decide) (by decide)).trans hx) | exact ((tq_n (by decide) (by decide)).trans h1) | exact ((tq_n (by decide) (by decide)).trans h2)) (by rfl) ?_
        refine ma_bipush dX11_shows_106 ?_
        refine ma_aload_n dX11_shows_108 rfl ?_
        refine ma_getf dX11_shows_109 fX11_10 (by first | exact tq_31 | exact ((tq_n (by decide) (by decide)).trans hx) | exact ((tq_n (by decide) (by decide)).trans h1) | exact ((tq_n (by decide) (by decide)).trans h2)) (by rfl) ?_
        refine ma_getf dX11_shows_112 fX11_134 (by first | exact tq_31 | exact ((tq_n (by decide) (by decide)).trans hx) | exact ((tq_n (by decide) (by decide)).trans h1) | exact ((tq_n (by decide) (by decide)).trans h2)) (by rfl) ?_
        refine ma_iload_n dX11_shows_115 rfl ?_
        refine ma_iald dX11_shows_116 (by first | exact tq_31 | exact ((tq_n (by decide) (by decide)).trans hx) | exact ((tq_n (by decide) (by decide)).trans h1) | exact ((tq_n (by decide) (by decide)).trans h2)) (by omega) (by omega) (by omega) ?_
        refine ma_bipush dX11_shows_117 ?_
        refine ma_kand 5 32 dX11_shows_119 (by decide) (by decide +kernel) (by decide) ?_
        refine ma_iadd dX11_shows_120 ?_
        refine ma_i2l dX11_shows_121 ?_
        refine ma_cV [_] dX11_shows_122 wX9_add lX11_144 iX9_add sX9_add rfl (by first | exact tq_31 | exact ((tq_n (by decide) (by decide)).trans hx) | exact ((tq_n (by decide) (by decide)).trans h1) | exact ((tq_n (by decide) (by decide)).trans h2)) (Nat.le_of_ble_eq_true rfl) ?_
        refine q_add (by omega) (iw_of (by omega) (by omega)) ?_
        refine ma_iincN dX11_shows_125 rfl (by decide) rfl ?_
        refine ma_goto 27 dX11_shows_128 rfl ?_
        have sy := sh_ye (t := t) (T := T0) k0 c49
        have si := sh_in hG (k := k + 1) (by omega) (by omega)
        refine ih (k + 1) _ _ (by omega) (by omega) (by omega) ?_ ?_
        · rw [sy.1, ← es]; omega
        · rw [sy.2, eT, ← es]; rfl
theorem c_X11_shows {h : ma_H} {nx d : Nat} {t q0 sz : Int} {G T0 : Int → Int} {Q : Option ma_V → ma_H → Nat → Prop} (hx : h 0 = co 11 (xo q0)) (h1 : h 1 = co 8 [vi t, vr 2]) (h2 : h 2 = ci 32 G) (hG : VG t G) (K : Q (some (vi (shs G (4 * t).toNat))) (tq h (shs G (4 * t).toNat) (shT t G T0 (4 * t).toNat)) nx) : ma_Ct mX11_shows (d + 1) 0 0 [vr 0] (tq h sz T0) nx Q := by
  have ht := hG.1
  refine ma_Ct.of (by decide +kernel) (Nat.le_of_ble_eq_true rfl) ?_
  refine ma_aload_n dX11_shows_0 rfl ?_
  refine ma_getf dX11_shows_1 fX11_40 (by first | exact tq_31 | exact ((tq_n (by decide) (by decide)).trans hx) | exact ((tq_n (by decide) (by decide)).trans h1) | exact ((tq_n (by decide) (by decide)).trans h2)) (by rfl) ?_
  refine ma_cV [] dX11_shows_4 wX9_clear lX11_141 iX9_clear sX9_clear rfl (by first | exact tq_31 | exact ((tq_n (by decide) (by decide)).trans hx) | exact ((tq_n (by decide) (by decide)).trans h1) | exact ((tq_n (by decide) (by decide)).trans h2)) (Nat.le_of_ble_eq_true rfl) ?_
  refine q_clear ?_
  refine ma_aload_n dX11_shows_7 rfl ?_
  refine ma_getf dX11_shows_8 fX11_40 (by first | exact tq_31 | exact ((tq_n (by decide) (by decide)).trans hx) | exact ((tq_n (by decide) (by decide)).trans h1) | exact ((tq_n (by decide) (by decide)).trans h2)) (by rfl) ?_
  refine ma_bipush dX11_shows_11 ?_
  refine ma_aload_n dX11_shows_13 rfl ?_
  refine ma_getf dX11_shows_14 fX11_10 (by first | exact tq_31 | exact ((tq_n (by decide) (by decide)).trans hx) | exact ((tq_n (by decide) (by decide)).trans h1) | exact ((tq_n (by decide) (by decide)).trans h2)) (by rfl) ?_
  refine ma_getf dX11_shows_17 fX11_123 (by first | exact tq_31 | exact ((tq_n (by decide) (by decide)).trans hx) | exact ((tq_n (by decide) (by decide)).trans h1) | exact ((tq_n (by decide) (by decide)).trans h2)) (by rfl) ?_
  refine ma_iadd dX11_shows_20 ?_
  refine ma_i2l dX11_shows_21 ?_
  refine ma_cV [_] dX11_shows_22 wX9_add lX11_144 iX9_add sX9_add rfl (by first | exact tq_31 | exact ((tq_n (by decide) (by decide)).trans hx) | exact ((tq_n (by decide) (by decide)).trans h1) | exact ((tq_n (by decide) (by decide)).trans h2)) (Nat.le_of_ble_eq_true rfl) ?_
  refine q_add (by decide) (iw_of (by omega) (by omega)) ?_
  refine ma_iconst dX11_shows_25 ?_
  refine ma_istore_nN dX11_shows_26 (by decide) rfl ?_
  exact l_sh27 hx h1 h2 hG K 33 0 1 _ (by decide) (by omega) (by omega) rfl rfl
theorem pt_ne {t : Int} {G : Int → Int} (hG : VG t G) {k : Int} (k0 : 0 ≤ k) (k1 : k < 4 * t) : pt G k ≠ k := by
  rcases hG.2.1 k k0 k1 with z | z
  · unfold pt; rw [if_pos (by omega)]; omega
  · unfold pt; rw [if_neg (by omega)]; exact z.2.2.2.2
set_option maxHeartbeats 2000000 in
theorem l_sh38 {h : ma_H} {nx d : Nat} {I : Nat → Int} {t : Int} {G Aa T0 F0 R0 fi0 : Int → Int} {Q : Option ma_V → ma_H → Nat → Prop} (h74 : h 74 = ci 33 Aa) (hG : VG t G) (hA : AG t G Aa) (K : Q (some (vi (shs G (4 * t).toNat))) (rh h (iu (iu I 5 0) 4 (shs G (4 * t).toNat)) (shT t G T0 (4 * t).toNat) F0 R0 fi0) nx) :
    ∀ (m : Nat) (x f s : Int) (T : Int → Int) (w : Option ma_V), 0 ≤ x → x < t → 0 ≤ f → f ≤ 4 → 5 * (t - x) - f < m → s = shs G (4 * x + f).toNat → T = shT t G T0 (4 * x + f).toNat → ma_J none mX12_shows (d + 1) 0 0 38 [some (vr 73), some (vi x), some (vi f), w] [] (rh h (iu (iu I 5 0) 4 s) T F0 R0 fi0) nx Q := by
  have ht := hG.1
  intro m
  induction m with
  | zero => intro x f s T w x0 x1 f0 f1 km; omega
  | succ m ih =>
    intro x f s T w x0 x1 f0 f1 km es eT
    have sb : 1 ≤ s ∧ s ≤ 65 := by
      have a := sh_in hG (k := 4 * x + f) (by omega) (by omega)
      omega
    refine ma_iload_n dX12_shows_38 rfl ?_
    refine ma_iconst dX12_shows_39 ?_
    refine ma_rcmp_ge 132 dX12_shows_40 rfl (by constructor <;> omega) (by constructor <;> omega) (fun c40 => ?_) (fun c40 => ?_)
    · -- 132
      refine ma_iincN dX12_shows_132 rfl (by decide) rfl ?_
      refine ma_goto 26 dX12_shows_135 rfl ?_
      refine ma_iload_n dX12_shows_26 rfl ?_
      refine ma_aload_n dX12_shows_27 rfl ?_
      refine ma_getf dX12_shows_28 fX12_9 (by first | exact rh_73 | exact ((rh_n (by decide)).trans h74)) (by rfl) ?_
      refine ma_iconst dX12_shows_31 ?_
      refine ma_iald dX12_shows_32 (by first | exact rh_73 | exact ((rh_n (by decide)).trans h74)) (by omega) (by omega) (by omega) ?_
      rw [hA.1]
      refine ma_rcmp_ge 138 dX12_shows_33 rfl (by constructor <;> omega) (by constructor <;> omega) (fun c33 => ?_) (fun c33 => ?_)
      · -- 138
        refine ma_aload_n dX12_shows_138 rfl ?_
        refine ma_getf dX12_shows_139 fX12_132 (by first | exact rh_73 | exact ((rh_n (by decide)).trans h74)) (by rfl) ?_
        rw [iu_s]
        have e : x + 1 = t := by omega
        have ef : f = 4 := by omega
        subst ef
        rw [show 4 * x + 4 = 4 * t by omega] at es eT
        rw [es, eT]
        exact ma_iret dX12_shows_142 rfl K
      · -- 36
        refine ma_iconst dX12_shows_36 ?_
        refine ma_istore_nN dX12_shows_37 (by decide) rfl ?_
        exact ih (x + 1) 0 _ _ _ (by omega) (by omega) (by omega) (by omega) (by omega) (by rw [show 4 * (x + 1) + 0 = 4 * x + f by omega]; exact es) (by rw [show 4 * (x + 1) + 0 = 4 * x + f by omega]; exact eT)
    · -- 43
      refine ma_aload_n dX12_shows_43 rfl ?_
      refine ma_getf dX12_shows_44 fX12_9 (by first | exact rh_73 | exact ((rh_n (by decide)).trans h74)) (by rfl) ?_
      refine ma_iload_n dX12_shows_47 rfl ?_
      refine ma_iload_n dX12_shows_48 rfl ?_
      refine ma_cS [_, _, _] dX12_shows_49 wX12_glue lX12_150 tX12_glue (Nat.le_of_ble_eq_true rfl) ?_
      refine c_X12_glue ((rh_n (by decide)).trans h74) (by omega) (by omega) ?_
      rw [show 1 + 4 * x + f = 1 + (4 * x + f) by omega, hA.2 (4 * x + f) (by omega) (by omega)]
      generalize ec : cv (G (4 * x + f)) = c
      have gk := vg_in hG (k := 4 * x + f) (by omega) (by omega)
      have cc : (c = -1 ∧ G (4 * x + f) = -1) ∨ (0 ≤ G (4 * x + f) ∧ c / 24 = G (4 * x + f) / 32 ∧ c % 24 = G (4 * x + f) % 32 ∧ G (4 * x + f) % 32 < 24 ∧ G (4 * x + f) < 256 ∧ 0 ≤ c ∧ c < 200) := by
        rw [← ec]
        unfold cv
        split <;> omega
      have cr : -1 ≤ c ∧ c < 200 := by omega
      refine ma_istore_nN dX12_shows_52 (by decide) rfl ?_
      refine ma_iload_n dX12_shows_53 rfl ?_
      refine ma_iconst dX12_shows_54 ?_
      refine ma_rcmp_eq 126 dX12_shows_55 rfl (by constructor <;> omega) (by constructor <;> omega) (fun c55 => ?_) (fun c55 => ?_)
      · -- 126
        refine ma_iincN dX12_shows_126 rfl (by decide) rfl ?_
        refine ma_goto 38 dX12_shows_129 rfl ?_
        have sn := sh_no (t := t) (T := T0) (k := 4 * x + f) (by omega) (show ¬ 4 * x + f < pt G (4 * x + f) by unfold pt; rw [if_pos (by omega)]; omega)
        exact ih x (f + 1) _ _ _ (by omega) (by omega) (by omega) (by omega) (by omega) (by rw [show 4 * x + (f + 1) = 4 * x + f + 1 by omega, sn.1]; exact es) (by rw [show 4 * x + (f + 1) = 4 * x + f + 1 by omega, sn.2]; exact eT)
      · -- 58
        rcases cc with cc | cq
        · exact absurd cc.1 c55
        refine ma_iconst dX12_shows_58 ?_
        refine ma_iload_n dX12_shows_59 rfl ?_
        refine ma_bipush dX12_shows_60 ?_
        refine ma_kdiv dX12_shows_62 (by constructor <;> omega) (by constructor <;> omega) ?_
        rw [cq.2.1]
        refine ma_imul dX12_shows_63 ?_
        refine ma_iload_n dX12_shows_64 rfl ?_
        refine ma_bipush dX12_shows_65 ?_
        refine ma_kmod dX12_shows_67 (by constructor <;> omega) (by constructor <;> omega) ?_
        rw [cq.2.2.1]
        refine ma_iload_n dX12_shows_68 rfl ?_
        refine ma_cS [_, _] dX12_shows_69 wX12_image lX12_124 tX12_image (Nat.le_of_ble_eq_true rfl) ?_
        refine c_X12_image (by omega) (by omega) ?_
        have ep : pt G (4 * x + f) = 4 * (G (4 * x + f) / 32) + im (G (4 * x + f) % 32) f := by
          unfold pt
          rw [if_neg (by omega), show (4 * x + f) % 4 = f by omega]
        have pr := pt_r hG (k := 4 * x + f) (by omega) (by omega)
        have pn := pt_ne hG (k := 4 * x + f) (by omega) (by omega)
        refine ma_iadd dX12_shows_72 ?_
        refine ma_iconst dX12_shows_73 ?_
        refine ma_iload_n dX12_shows_74 rfl ?_
        refine ma_imul dX12_shows_75 ?_
        refine ma_iload_n dX12_shows_76 rfl ?_
        refine ma_iadd dX12_shows_77 ?_
        refine ma_rcmp_ge 84 dX12_shows_78 rfl (by constructor <;> omega) (by constructor <;> omega) (fun c78 => ?_) (fun c78 => ?_)
        · -- 84
          refine ma_aload_n dX12_shows_84 rfl ?_
          refine ma_bipush dX12_shows_85 ?_
          refine ma_iload_n dX12_shows_87 rfl ?_
          refine ma_iadd dX12_shows_88 ?_
          refine ma_i2l dX12_shows_89 ?_
          refine ma_cV [_] dX12_shows_90 wX12_tell lX12_231 iX12_tell sX12_tell rfl (by first | exact rh_73 | exact ((rh_n (by decide)).trans h74)) (Nat.le_of_ble_eq_true rfl) ?_
          refine r_tell (_) rfl (by rw [iu_s]; omega) (iw_of (by omega) (by omega)) ?_
          rw [iu_s, iu_u]
          refine ma_aload_n dX12_shows_93 rfl ?_
          refine ma_bipush dX12_shows_94 ?_
          refine ma_iload_n dX12_shows_96 rfl ?_
          refine ma_iadd dX12_shows_97 ?_
          refine ma_i2l dX12_shows_98 ?_
          refine ma_cV [_] dX12_shows_99 wX12_tell lX12_231 iX12_tell sX12_tell rfl (by first | exact rh_73 | exact ((rh_n (by decide)).trans h74)) (Nat.le_of_ble_eq_true rfl) ?_
          refine r_tell (_) rfl (by rw [iu_s]; omega) (iw_of (by omega) (by omega)) ?_
          rw [iu_s, iu_u]
          refine ma_aload_n dX12_shows_102 rfl ?_
          refine ma_bipush dX12_shows_103 ?_
          refine ma_iload_n dX12_shows_105 rfl ?_
          refine ma_bipush dX12_shows_106 ?_
          refine ma_kdiv dX12_shows_108 (by constructor <;> omega) (by constructor <;> omega) ?_
          rw [cq.2.1]
          refine ma_iadd dX12_shows_109 ?_
          refine ma_i2l dX12_shows_110 ?_
          refine ma_cV [_] dX12_shows_111 wX12_tell lX12_231 iX12_tell sX12_tell rfl (by first | exact rh_73 | exact ((rh_n (by decide)).trans h74)) (Nat.le_of_ble_eq_true rfl) ?_
          refine r_tell (_) rfl (by rw [iu_s]; omega) (iw_of (by omega) (by omega)) ?_
          rw [iu_s, iu_u]
          refine ma_aload_n dX12_shows_114 rfl ?_
          refine ma_bipush dX12_shows_115 ?_
          refine ma_iload_n dX12_shows_117 rfl ?_
          refine ma_bipush dX12_shows_118 ?_
          refine ma_kmod dX12_shows_120 (by constructor <;> omega) (by constructor <;> omega) ?_
          rw [cq.2.2.1]
          refine ma_iadd dX12_shows_121 ?_
          refine ma_i2l dX12_shows_122 ?_
          refine ma_cV [_] dX12_shows_123 wX12_tell lX12_231 iX12_tell sX12_tell rfl (by first | exact rh_73 | exact ((rh_n (by decide)).trans h74)) (Nat.le_of_ble_eq_true rfl) ?_
          refine r_tell (_) rfl (by rw [iu_s]; omega) (iw_of (by omega) (by omega)) ?_
          rw [iu_s, iu_u]
          refine ma_iincN dX12_shows_126 rfl (by decide) rfl ?_
          refine ma_goto 38 dX12_shows_129 rfl ?_
          have sy := sh_ye (t := t) (G := G) (T := T0) (k := 4 * x + f) (by omega) (by omega)
          refine ih x (f + 1) _ _ _ (by omega) (by omega) (by omega) (by omega) (by omega) ?_ ?_
          · rw [show 4 * x + (f + 1) = 4 * x + f + 1 by omega, sy.1, ← es]; omega
          · rw [show 4 * x + (f + 1) = 4 * x + f + 1 by omega, sy.2, eT, ← es]; unfold sh4; rw [show (4 * x + f) / 4 = x by omega, show (4 * x + f) % 4 = f by omega]
        · -- 81
          refine ma_goto 126 dX12_shows_81 rfl ?_
          refine ma_iincN dX12_shows_126 rfl (by decide) rfl ?_
          refine ma_goto 38 dX12_shows_129 rfl ?_
          have sn := sh_no (t := t) (T := T0) (k := 4 * x + f) (by omega) (show ¬ 4 * x + f < pt G (4 * x + f) by omega)
          exact ih x (f + 1) _ _ _ (by omega) (by omega) (by omega) (by omega) (by omega) (by rw [show 4 * x + (f + 1) = 4 * x + f + 1 by omega, sn.1]; exact es) (by rw [show 4 * x + (f + 1) = 4 * x + f + 1 by omega, sn.2]; exact eT)
theorem c_X12_shows {h : ma_H} {nx d : Nat} {I : Nat → Int} {t : Int} {G Aa T0 F0 R0 fi0 : Int → Int} {Q : Option ma_V → ma_H → Nat → Prop} (h74 : h 74 = ci 33 Aa) (hG : VG t G) (hA : AG t G Aa) (K : Q (some (vi (shs G (4 * t).toNat))) (rh h (iu (iu I 5 0) 4 (shs G (4 * t).toNat)) (shT t G T0 (4 * t).toNat) F0 R0 fi0) nx) : ma_Ct mX12_shows (d + 1) 0 0 [vr 73] (rh h I T0 F0 R0 fi0) nx Q := by
  have ht := hG.1
  refine ma_Ct.of (by decide +kernel) (Nat.le_of_ble_eq_true rfl) ?_
  refine ma_aload_n dX12_shows_0 rfl ?_
  refine ma_iconst dX12_shows_1 ?_
  refine ma_puti dX12_shows_2 fX12_128 (by first | exact rh_73 | exact ((rh_n (by decide)).trans h74)) (Nat.le_of_ble_eq_true rfl) ?_
  rw [mo_5, rh_p]
  refine ma_aload_n dX12_shows_5 rfl ?_
  refine ma_iconst dX12_shows_6 ?_
  refine ma_puti dX12_shows_7 fX12_132 (by first | exact rh_73 | exact ((rh_n (by decide)).trans h74)) (Nat.le_of_ble_eq_true rfl) ?_
  rw [mo_4, rh_p]
  refine ma_aload_n dX12_shows_10 rfl ?_
  refine ma_bipush dX12_shows_11 ?_
  refine ma_aload_n dX12_shows_13 rfl ?_
  refine ma_getf dX12_shows_14 fX12_9 (by first | exact rh_73 | exact ((rh_n (by decide)).trans h74)) (by rfl) ?_
  refine ma_iconst dX12_shows_17 ?_
  refine ma_iald dX12_shows_18 (by first | exact rh_73 | exact ((rh_n (by decide)).trans h74)) (by omega) (by omega) (by omega) ?_
  rw [hA.1]
  refine ma_iadd dX12_shows_19 ?_
  refine ma_i2l dX12_shows_20 ?_
  refine ma_cV [_] dX12_shows_21 wX12_tell lX12_231 iX12_tell sX12_tell rfl (by first | exact rh_73 | exact ((rh_n (by decide)).trans h74)) (Nat.le_of_ble_eq_true rfl) ?_
  refine r_tell 0 rfl (by decide) (iw_of (by omega) (by omega)) ?_
  rw [iu_u]
  refine ma_iconst dX12_shows_24 ?_
  refine ma_istore_nN dX12_shows_25 (by decide) rfl ?_
  refine ma_iload_n dX12_shows_26 rfl ?_
  refine ma_aload_n dX12_shows_27 rfl ?_
  refine ma_getf dX12_shows_28 fX12_9 (by first | exact rh_73 | exact ((rh_n (by decide)).trans h74)) (by rfl) ?_
  refine ma_iconst dX12_shows_31 ?_
  refine ma_iald dX12_shows_32 (by first | exact rh_73 | exact ((rh_n (by decide)).trans h74)) (by omega) (by omega) (by omega) ?_
  rw [hA.1]
  refine ma_rcmp_ge 138 dX12_shows_33 rfl (by constructor <;> omega) (by constructor <;> omega) (fun c33 => ?_) (fun c33 => ?_)
  · -- 138
    exfalso
    omega
  · -- 36
    refine ma_iconst dX12_shows_36 ?_
    refine ma_istore_nN dX12_shows_37 (by decide) rfl ?_
    exact l_sh38 h74 hG hA K 42 0 0 _ _ _ (by decide) (by omega) (by decide) (by decide) (by omega) rfl rfl
