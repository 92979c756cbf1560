def gh (h : ma_H) (N : Int → Int) (M : Int → Int) (O : Int → Int) (R : Int → Int) (C : Int → Int) (V : Int → Int) : ma_H := ma_up (ma_up (ma_up (ma_up (ma_up (ma_up h 78 (ci 8 N)) 79 (ci 32 M)) 80 (ci 8 O)) 81 (ci 33 R)) 83 (ci 32 C)) 84 (ci 4 V)
theorem gh_78 {h : ma_H} {N : Int → Int} {M : Int → Int} {O : Int → Int} {R : Int → Int} {C : Int → Int} {V : Int → Int} : gh h N M O R C V 78 = ci 8 N := rfl
theorem gh_79 {h : ma_H} {N : Int → Int} {M : Int → Int} {O : Int → Int} {R : Int → Int} {C : Int → Int} {V : Int → Int} : gh h N M O R C V 79 = ci 32 M := rfl
theorem gh_80 {h : ma_H} {N : Int → Int} {M : Int → Int} {O : Int → Int} {R : Int → Int} {C : Int → Int} {V : Int → Int} : gh h N M O R C V 80 = ci 8 O := rfl
theorem gh_81 {h : ma_H} {N : Int → Int} {M : Int → Int} {O : Int → Int} {R : Int → Int} {C : Int → Int} {V : Int → Int} : gh h N M O R C V 81 = ci 33 R := rfl
theorem gh_83 {h : ma_H} {N : Int → Int} {M : Int → Int} {O : Int → Int} {R : Int → Int} {C : Int → Int} {V : Int → Int} : gh h N M O R C V 83 = ci 32 C := rfl
theorem gh_84 {h : ma_H} {N : Int → Int} {M : Int → Int} {O : Int → Int} {R : Int → Int} {C : Int → Int} {V : Int → Int} : gh h N M O R C V 84 = ci 4 V := rfl
theorem gh_n {h : ma_H} {N : Int → Int} {M : Int → Int} {O : Int → Int} {R : Int → Int} {C : Int → Int} {V : Int → Int} {k : Nat} (hk : k < 78 ∨ 84 < k ∨ k = 82) : gh h N M O R C V k = h k := by
  unfold gh
  rw [ma_up_n (by omega), ma_up_n (by omega), ma_up_n (by omega), ma_up_n (by omega), ma_up_n (by omega), ma_up_n (by omega)]
theorem gh_p78 {h : ma_H} {N : Int → Int} {M : Int → Int} {O : Int → Int} {R : Int → Int} {C : Int → Int} {V : Int → Int} {N' : Int → Int} : ma_up (gh h N M O R C V) 78 (ci 8 N') = gh h N' M O R C V := by
  unfold gh
  rw [ma_up_cm _ _ _ (by decide : 84 ≠ 78), ma_up_cm _ _ _ (by decide : 83 ≠ 78), ma_up_cm _ _ _ (by decide : 81 ≠ 78), ma_up_cm _ _ _ (by decide : 80 ≠ 78), ma_up_cm _ _ _ (by decide : 79 ≠ 78), ma_up_up]
theorem gh_p79 {h : ma_H} {N : Int → Int} {M : Int → Int} {O : Int → Int} {R : Int → Int} {C : Int → Int} {V : Int → Int} {M' : Int → Int} : ma_up (gh h N M O R C V) 79 (ci 32 M') = gh h N M' O R C V := by
  unfold gh
  rw [ma_up_cm _ _ _ (by decide : 84 ≠ 79), ma_up_cm _ _ _ (by decide : 83 ≠ 79), ma_up_cm _ _ _ (by decide : 81 ≠ 79), ma_up_cm _ _ _ (by decide : 80 ≠ 79), ma_up_up]
theorem gh_p80 {h : ma_H} {N : Int → Int} {M : Int → Int} {O : Int → Int} {R : Int → Int} {C : Int → Int} {V : Int → Int} {O' : Int → Int} : ma_up (gh h N M O R C V) 80 (ci 8 O') = gh h N M O' R C V := by
  unfold gh
  rw [ma_up_cm _ _ _ (by decide : 84 ≠ 80), ma_up_cm _ _ _ (by decide : 83 ≠ 80), ma_up_cm _ _ _ (by decide : 81 ≠ 80), ma_up_up]
theorem gh_p81 {h : ma_H} {N : Int → Int} {M : Int → Int} {O : Int → Int} {R : Int → Int} {C : Int → Int} {V : Int → Int} {R' : Int → Int} : ma_up (gh h N M O R C V) 81 (ci 33 R') = gh h N M O R' C V := by
  unfold gh
  rw [ma_up_cm _ _ _ (by decide : 84 ≠ 81), ma_up_cm _ _ _ (by decide : 83 ≠ 81), ma_up_up]
theorem gh_p83 {h : ma_H} {N : Int → Int} {M : Int → Int} {O : Int → Int} {R : Int → Int} {C : Int → Int} {V : Int → Int} {C' : Int → Int} : ma_up (gh h N M O R C V) 83 (ci 32 C') = gh h N M O R C' V := by
  unfold gh
  rw [ma_up_cm _ _ _ (by decide : 84 ≠ 83), ma_up_up]
theorem gh_p84 {h : ma_H} {N : Int → Int} {M : Int → Int} {O : Int → Int} {R : Int → Int} {C : Int → Int} {V : Int → Int} {V' : Int → Int} : ma_up (gh h N M O R C V) 84 (ci 4 V') = gh h N M O R C V' := by
  unfold gh
  rw [ma_up_up]
theorem gh_of {h : ma_H} {N : Int → Int} {M : Int → Int} {O : Int → Int} {R : Int → Int} {C : Int → Int} {V : Int → Int} (e78 : h 78 = ci 8 N) (e79 : h 79 = ci 32 M) (e80 : h 80 = ci 8 O) (e81 : h 81 = ci 33 R) (e83 : h 83 = ci 32 C) (e84 : h 84 = ci 4 V) : h = gh h N M O R C V := by
  unfold gh
  rw [ma_up_id e78, ma_up_id e79, ma_up_id e80, ma_up_id e81, ma_up_id e83, ma_up_id e84]
set_option maxHeartbeats 1000000 in
theorem l_X12_renamed {h : ma_H} {nx d : Nat} {t b p nt ns : Int} {M f : Int → Int} {Q : Option ma_V → ma_H → Nat → Prop} {I : Nat → Int} (hM : h 73 = co 12 (mo I)) (h79 : h 79 = ci 32 M) (h77 : h 77 = ci 64 f) (hf : PB f) (ht : 0 ≤ t ∧ t < 8) (hb : 0 ≤ b ∧ b < 8) (hp : 0 ≤ p ∧ p < 24) (hn : 0 ≤ nt ∧ nt < 24) (hs : 0 ≤ ns ∧ ns < 24) (hA : ∀ c, 0 ≤ c → c < 4 → M (4 * t + c) = im nt c) (hB : ∀ c, 0 ≤ c → c < 4 → M (4 * b + c) = im ns c) (K : ∀ V, Q (some (vi (af ns (af p (iv nt))))) (ma_up h 84 (ci 4 V)) nx) :
    ∀ (m : Nat) (c : Int) (V : Int → Int), 0 ≤ c → c ≤ 4 → 4 - c < m → (∀ c', 0 ≤ c' → c' < c → V (im nt c') = im ns (im p c')) → ma_J none mX12_renamed (d + 1) 0 0 9 [some (vr 73), some (vi t), some (vi b), some (vi p), some (vr 84), some (vi c)] [] (ma_up h 84 (ci 4 V)) nx Q := by
  have iv' := iv_in hn.1 hn.2
  intro m
  induction m with
  | zero => intro c V h0 h1 h2; omega
  | succ m ih =>
    intro c V h0 h1 h2 hV
    refine ma_iload dX12_renamed_9 rfl ?_
    refine ma_iconst dX12_renamed_11 ?_
    refine ma_rcmp_ge 50 dX12_renamed_12 rfl (by constructor <;> omega) (by constructor <;> omega) (fun c12 => ?_) (fun c12 => ?_)
    · -- 50
      have key : ∀ j, 0 ≤ j → j < 4 → V j = im (af ns (af p (iv nt))) j := fun j j0 j1 => by
        have i := im_in iv'.1 iv'.2 j0 j1
        have e := hV _ i.1 (by omega)
        rw [(im_mi hn.1 hn.2 j0 j1).2] at e
        have a := af_in hp.1 hp.2 iv'.1 iv'.2
        rw [e, im_af hs.1 hs.2 a.1 a.2 j0 j1, im_af hp.1 hp.2 iv'.1 iv'.2 j0 j1]
      refine ma_aload_n dX12_renamed_50 rfl ?_
      refine ma_aload dX12_renamed_51 rfl ?_
      refine ma_iconst dX12_renamed_53 ?_
      refine ma_iald dX12_renamed_54 (by first | assumption | exact ma_up_s _ _ _ | exact (ma_up_n (by decide)).trans (by assumption)) (by omega) (by omega) (by omega) ?_
      refine ma_aload dX12_renamed_55 rfl ?_
      refine ma_iconst dX12_renamed_57 ?_
      refine ma_iald dX12_renamed_58 (by first | assumption | exact ma_up_s _ _ _ | exact (ma_up_n (by decide)).trans (by assumption)) (by omega) (by omega) (by omega) ?_
      refine ma_aload dX12_renamed_59 rfl ?_
      refine ma_iconst dX12_renamed_61 ?_
      refine ma_iald dX12_renamed_62 (by first | assumption | exact ma_up_s _ _ _ | exact (ma_up_n (by decide)).trans (by assumption)) (by omega) (by omega) (by omega) ?_
      refine ma_cV [_, _, _] dX12_renamed_63 wX12_permOf lX12_158 iX12_permOf sX12_permOf rfl (by first | assumption | exact ma_up_s _ _ _ | exact (ma_up_n (by decide)).trans (by assumption)) (Nat.le_of_ble_eq_true rfl) ?_
      refine c_X12_permOf (p := af ns (af p (iv nt))) ((ma_up_n (by decide)).trans hM) ((ma_up_n (by decide)).trans h77) hf (af_in hs.1 hs.2 (af_in hp.1 hp.2 iv'.1 iv'.2).1 (af_in hp.1 hp.2 iv'.1 iv'.2).2) (key 0 (by decide) (by decide)) (key 1 (by decide) (by decide)) (key 2 (by decide) (by decide)) ?_
      exact ma_iret dX12_renamed_66 rfl (K V)
    · -- 15
      refine ma_aload dX12_renamed_15 rfl ?_
      refine ma_aload_n dX12_renamed_17 rfl ?_
      refine ma_getf dX12_renamed_18 fX12_27 (by first | assumption | exact ma_up_s _ _ _ | exact (ma_up_n (by decide)).trans (by assumption)) (by rfl) ?_
      refine ma_iconst dX12_renamed_21 ?_
      refine ma_iload_n dX12_renamed_22 rfl ?_
      refine ma_imul dX12_renamed_23 ?_
      refine ma_iload dX12_renamed_24 rfl ?_
      refine ma_iadd dX12_renamed_26 ?_
      refine ma_iald dX12_renamed_27 (by first | assumption | exact ma_up_s _ _ _ | exact (ma_up_n (by decide)).trans (by assumption)) (by omega) (by omega) (by omega) ?_
      rw [hA c h0 (by omega)]
      refine ma_aload_n dX12_renamed_28 rfl ?_
      refine ma_getf dX12_renamed_29 fX12_27 (by first | assumption | exact ma_up_s _ _ _ | exact (ma_up_n (by decide)).trans (by assumption)) (by rfl) ?_
      refine ma_iconst dX12_renamed_32 ?_
      refine ma_iload_n dX12_renamed_33 rfl ?_
      refine ma_imul dX12_renamed_34 ?_
      refine ma_iload_n dX12_renamed_35 rfl ?_
      refine ma_iload dX12_renamed_36 rfl ?_
      refine ma_cS [_, _] dX12_renamed_38 wX12_image lX12_124 tX12_image (Nat.le_of_ble_eq_true rfl) ?_
      refine c_X12_image hp (by constructor <;> omega) ?_
      have i1 := im_in hp.1 hp.2 h0 (show c < 4 by omega)
      have i2 := im_in hn.1 hn.2 h0 (show c < 4 by omega)
      refine ma_iadd dX12_renamed_41 ?_
      refine ma_iald dX12_renamed_42 (by first | assumption | exact ma_up_s _ _ _ | exact (ma_up_n (by decide)).trans (by assumption)) (by omega) (by omega) (by omega) ?_
      rw [hB _ i1.1 i1.2]
      refine ma_iast dX12_renamed_43 (by first | assumption | exact ma_up_s _ _ _ | exact (ma_up_n (by decide)).trans (by assumption)) (by omega) (by omega) (by omega) ?_
      rw [ma_up_up]
      refine ma_iincN dX12_renamed_44 rfl (by decide) rfl ?_
      refine ma_goto 9 dX12_renamed_47 rfl ?_
      exact ih (c + 1) _ (by omega) (by omega) (by omega) (fun c' a b => by
        by_cases z : c' = c
        · rw [z, uf_s]
        · rw [uf_n (fun e => z (im_ij hn.1 hn.2 a (by omega) h0 (by omega) e))]; exact hV c' a (by omega))
theorem c_X12_renamed {h : ma_H} {nx d : Nat} {t b p nt ns : Int} {M f : Int → Int} {Q : Option ma_V → ma_H → Nat → Prop} {I : Nat → Int} {V : Int → Int} (h84 : h 84 = ci 4 V) (hM : h 73 = co 12 (mo I)) (h79 : h 79 = ci 32 M) (h77 : h 77 = ci 64 f) (hf : PB f) (ht : 0 ≤ t ∧ t < 8) (hb : 0 ≤ b ∧ b < 8) (hp : 0 ≤ p ∧ p < 24) (hn : 0 ≤ nt ∧ nt < 24) (hs : 0 ≤ ns ∧ ns < 24) (hA : ∀ c, 0 ≤ c → c < 4 → M (4 * t + c) = im nt c) (hB : ∀ c, 0 ≤ c → c < 4 → M (4 * b + c) = im ns c) (K : ∀ V, Q (some (vi (af ns (af p (iv nt))))) (ma_up h 84 (ci 4 V)) nx) : ma_Ct mX12_renamed (d + 1) 0 0 [vr 73, vi t, vi b, vi p] h nx Q := by
  refine ma_Ct.of (by decide +kernel) (Nat.le_of_ble_eq_true rfl) ?_
  rw [show h = ma_up h 84 (ci 4 V) from (ma_up_id h84).symm]
  refine ma_aload_n dX12_renamed_0 rfl ?_
  refine ma_getf dX12_renamed_1 fX12_42 (by first | exact ma_up_s _ _ _ | exact (ma_up_n (by decide)).trans (by assumption)) (by rfl) ?_
  refine ma_astoreN dX12_renamed_4 (by decide) rfl ?_
  refine ma_iconst dX12_renamed_6 ?_
  refine ma_istoreN dX12_renamed_7 (by decide) rfl ?_
  exact l_X12_renamed hM h79 h77 hf ht hb hp hn hs hA hB K 5 0 V (by omega) (by omega) (by omega) (fun c' a b => by omega)
/-- codes as the model has them -/
def cv (x : Int) : Int := if x < 0 then -1 else 24 * (x / 32) + x % 32
theorem cv_p {x : Int} (h : 0 ≤ x) (h2 : x % 32 < 24) : 0 ≤ cv x ∧ cv x / 24 = x / 32 ∧ cv x % 24 = x % 32 := by
  unfold cv
  rw [if_neg (by omega)]
  omega
theorem cv_n {x : Int} (h : x < 0) : cv x = -1 := if_pos h
set_option maxHeartbeats 2000000 in
theorem l_X12_lN205 {h : ma_H} {a nx d : Nat} {t b p nt v f0 p0 as mn sm i nm x11 : Int} {M0 C0 N O R V : Int → Int} {Q : Option ma_V → ma_H → Nat → Prop} {I : Nat → Int} (hM : h 73 = co 12 (mo I)) (ht : 0 ≤ t ∧ t < 8) (ht1 : t ≠ b) (hb : 0 ≤ b ∧ b < 8) (hp : 0 ≤ p ∧ p < 24) (hn : 0 ≤ nt ∧ nt < 24) (hv2 : v % 24 = p) (hv : 0 ≤ v ∧ v < 1000) (hA : ∀ c, 0 ≤ c → c < 4 → M0 (4 * t + c) = im nt c)
    (KO : ∀ (M C : Int → Int), (∀ c', 0 ≤ c' → c' < 4 → M (4 * b + im p c') = im nt c' ∧ C (4 * b + im nt c') = im p c') → (∀ s, (0 ≤ s ∧ s < 8) → s ≠ b → ∀ c', 0 ≤ c' → c' < 4 → M (4 * s + c') = M0 (4 * s + c') ∧ C (4 * s + c') = C0 (4 * s + c')) → ma_J none mX12_layNumbering (d + 1) 0 0 245 [some (vr 73), some (vr a), some (vi f0), some (vi p0), some (vi as), some (vi mn), some (vi sm), some (vi i), some (vi t), some (vi nm), some (vi v), some (vi x11), some (vi b), some (vi 4)] [] (gh h N M O R C V) nx Q) :
    ∀ (m : Nat) (c : Int) (M C : Int → Int), 0 ≤ c → c ≤ 4 → 4 - c < m → (∀ c', 0 ≤ c' → c' < c → M (4 * b + im p c') = im nt c' ∧ C (4 * b + im nt c') = im p c') → (∀ s, (0 ≤ s ∧ s < 8) → s ≠ b → ∀ c', 0 ≤ c' → c' < 4 → M (4 * s + c') = M0 (4 * s + c') ∧ C (4 * s + c') = C0 (4 * s + c')) → ma_J none mX12_layNumbering (d + 1) 0 0 205 [some (vr 73), some (vr a), some (vi f0), some (vi p0), some (vi as), some (vi mn), some (vi sm), some (vi i), some (vi t), some (vi nm), some (vi v), some (vi x11), some (vi b), some (vi c)] [] (gh h N M O R C V) nx Q := by
  intro m
  induction m with
  | zero => intro c M C h0 h1 h2; omega
  | succ m ih =>
    intro c M C h0 h1 h2 hc hs
    refine ma_iload dX12_layNumbering_205 rfl ?_
    refine ma_iconst dX12_layNumbering_207 ?_
    refine ma_rcmp_ge 245 dX12_layNumbering_208 rfl (by constructor <;> omega) (by constructor <;> omega) (fun c208 => ?_) (fun c208 => ?_)
    · -- 245
      have e4 : c = 4 := by omega
      subst e4
      exact KO M C (fun c' a b => hc c' a (by omega)) hs
    · -- 211
      refine ma_aload_n dX12_layNumbering_211 rfl ?_
      refine ma_iload dX12_layNumbering_212 rfl ?_
      refine ma_iload dX12_layNumbering_214 rfl ?_
      refine ma_bipush dX12_layNumbering_216 ?_
      refine ma_kmod dX12_layNumbering_218 (by constructor <;> omega) (by constructor <;> omega) ?_
      refine ma_iload dX12_layNumbering_219 rfl ?_
      refine ma_cS [_, _] dX12_layNumbering_221 wX12_image lX12_124 tX12_image (Nat.le_of_ble_eq_true rfl) ?_
      rw [hv2]
      refine c_X12_image hp (by constructor <;> omega) ?_
      have i1 := im_in hp.1 hp.2 h0 (show c < 4 by omega)
      have i2 := im_in hn.1 hn.2 h0 (show c < 4 by omega)
      refine ma_aload_n dX12_layNumbering_224 rfl ?_
      refine ma_getf dX12_layNumbering_225 fX12_27 (by first | exact gh_78 | exact gh_79 | exact gh_80 | exact gh_81 | exact gh_83 | exact gh_84 | exact (gh_n (by first | omega | assumption)).trans (by assumption)) (by rfl) ?_
      refine ma_iconst dX12_layNumbering_228 ?_
      refine ma_iload dX12_layNumbering_229 rfl ?_
      refine ma_imul dX12_layNumbering_231 ?_
      refine ma_iload dX12_layNumbering_232 rfl ?_
      refine ma_iadd dX12_layNumbering_234 ?_
      refine ma_iald dX12_layNumbering_235 (by first | exact gh_78 | exact gh_79 | exact gh_80 | exact gh_81 | exact gh_83 | exact gh_84 | exact (gh_n (by first | omega | assumption)).trans (by assumption)) (by omega) (by omega) (by omega) ?_
      rw [(hs t ht ht1 c h0 (by omega)).1, hA c h0 (by omega)]
      refine ma_cV [_, _, _] dX12_layNumbering_236 wX12_name lX12_146 iX12_name sX12_name rfl (by first | exact gh_78 | exact gh_79 | exact gh_80 | exact gh_81 | exact gh_83 | exact gh_84 | exact (gh_n (by first | omega | assumption)).trans (by assumption)) (Nat.le_of_ble_eq_true rfl) ?_
      refine c_X12_name ((gh_n (by omega)).trans hM) gh_79 gh_83 hb i1 i2 ?_
      rw [gh_p79, gh_p83]
      refine ma_iincN dX12_layNumbering_239 rfl (by decide) rfl ?_
      refine ma_goto 205 dX12_layNumbering_242 rfl ?_
      exact ih (c + 1) _ _ (by omega) (by omega) (by omega) (fun c' a b' => by
        by_cases z : c' = c
        · rw [z, uf_s, uf_s]; exact ⟨rfl, rfl⟩
        · rw [uf_n (fun e => z (im_ij hp.1 hp.2 a (by omega) h0 (by omega) (by omega))), uf_n (fun e => z (im_ij hn.1 hn.2 a (by omega) h0 (by omega) (by omega)))]; exact hc c' a (by omega)) (fun s s0 sb c' a b' => by
        have h1 := hs s s0 sb c' a b'
        rw [uf_n (by omega), uf_n (by omega)]
        exact h1)
