theorem l_X12_lN74 {h : ma_H} {a nx d : Nat} {f0 p0 as : Int} {Q : Option ma_V → ma_H → Nat → Prop} {I : Nat → Int} {N O R V : Int → Int} {x6 x7 x8 x9 x10 x11 x12 x13 : Option ma_V} (hM : h 73 = co 12 (mo I)) (hf0 : 0 ≤ f0 ∧ f0 < 8) (hp : 0 ≤ p0 ∧ p0 < 24) (KO : ∀ M C, (∀ c, 0 ≤ c → c < 4 → M (4 * f0 + c) = im p0 c ∧ C (4 * f0 + im p0 c) = c) → ma_J none mX12_layNumbering (d + 2) 0 0 99 [some (vr 73), some (vr a), some (vi f0), some (vi p0), some (vi as), some (vi 4), x6, x7, x8, x9, x10, x11, x12, x13] [] (gh h N M O R C V) nx Q) :
    ∀ (m : Nat) (c : Int) (M C : Int → Int), 0 ≤ c → c ≤ 4 → 4 - c < m → (∀ c', 0 ≤ c' → c' < c → M (4 * f0 + c') = im p0 c' ∧ C (4 * f0 + im p0 c') = c') → ma_J none mX12_layNumbering (d + 2) 0 0 74 [some (vr 73), some (vr a), some (vi f0), some (vi p0), some (vi as), some (vi c), x6, x7, x8, x9, x10, x11, x12, x13] [] (gh h N M O R C V) nx Q := by
  intro m
  induction m with
  | zero => intro c M C h0 h1 h2; omega
  | succ m ih =>
    intro c M C h0 h1 h2 hc
    refine ma_iload dX12_layNumbering_74 rfl ?_
    refine ma_iconst dX12_layNumbering_76 ?_
    refine ma_rcmp_ge 99 dX12_layNumbering_77 rfl (by constructor <;> omega) (by constructor <;> omega) (fun c77 => ?_) (fun c77 => ?_)
    · -- 99
      have e4 : c = 4 := by omega
      subst e4
      exact KO M C (fun c' a b => hc c' a (by omega))
    · -- 80
      refine ma_aload_n dX12_layNumbering_80 rfl ?_
      refine ma_iload_n dX12_layNumbering_81 rfl ?_
      refine ma_iload dX12_layNumbering_82 rfl ?_
      refine ma_iload_n dX12_layNumbering_84 rfl ?_
      refine ma_iload dX12_layNumbering_85 rfl ?_
      refine ma_cS [_, _] dX12_layNumbering_87 wX12_image lX12_124 tX12_image (Nat.le_of_ble_eq_true rfl) ?_
      refine c_X12_image hp (by constructor <;> omega) ?_
      have i1 := im_in hp.1 hp.2 h0 (show c < 4 by omega)
      refine ma_cV [_, _, _] dX12_layNumbering_90 wX12_name lX12_146 iX12_name sX12_name rfl (by first | exact gh_78 | exact gh_79 | exact gh_80 | exact gh_81 | exact gh_83 | exact gh_84 | exact (gh_n (by first | omega | assumption)).trans (by assumption)) (Nat.le_of_ble_eq_true rfl) ?_
      refine c_X12_name ((gh_n (by omega)).trans hM) gh_79 gh_83 (by omega) (by constructor <;> omega) i1 ?_
      rw [gh_p79, gh_p83]
      refine ma_iincN dX12_layNumbering_93 rfl (by decide) rfl ?_
      refine ma_goto 74 dX12_layNumbering_96 rfl ?_
      exact ih (c + 1) _ _ (by omega) (by omega) (by omega) (fun c' a b => by
        by_cases z : c' = c
        · rw [z, uf_s, uf_s]; exact ⟨rfl, rfl⟩
        · rw [uf_n (by omega), uf_n (fun e => z (im_ij hp.1 hp.2 a (by omega) h0 (by omega) (by omega)))]; exact hc c' a (by omega))
theorem l_X12_lN3 {h : ma_H} {a nx d : Nat} {f0 p0 as : Int} {Q : Option ma_V → ma_H → Nat → Prop} {I : Nat → Int} {M O R C V : Int → Int} {x6 x7 x8 x9 x10 x11 x12 x13 : Option ma_V} (hM : h 73 = co 12 (mo I)) (KO : ∀ N, (∀ j, 0 ≤ j → j < 8 → N j = -1) → ma_J none mX12_layNumbering (d + 2) 0 0 24 [some (vr 73), some (vr a), some (vi f0), some (vi p0), some (vi as), some (vi 8), x6, x7, x8, x9, x10, x11, x12, x13] [] (gh h N M O R C V) nx Q) :
    ∀ (m : Nat) (k : Int) (N : Int → Int), 0 ≤ k → k ≤ 8 → 8 - k < m → (∀ j, 0 ≤ j → j < k → N j = -1) → ma_J none mX12_layNumbering (d + 2) 0 0 3 [some (vr 73), some (vr a), some (vi f0), some (vi p0), some (vi as), some (vi k), x6, x7, x8, x9, x10, x11, x12, x13] [] (gh h N M O R C V) nx Q := by
  intro m
  induction m with
  | zero => intro k N h0 h1 h2; omega
  | succ m ih =>
    intro k N h0 h1 h2 hk
    refine ma_iload dX12_layNumbering_3 rfl ?_
    refine ma_bipush dX12_layNumbering_5 ?_
    refine ma_rcmp_ge 24 dX12_layNumbering_7 rfl (by constructor <;> omega) (by constructor <;> omega) (fun c7 => ?_) (fun c7 => ?_)
    · -- 24
      have e4 : k = 8 := by omega
      subst e4
      exact KO N (fun j j0 j1 => hk j j0 j1)
    · -- 10
      refine ma_aload_n dX12_layNumbering_10 rfl ?_
      refine ma_getf dX12_layNumbering_11 fX12_24 (by first | exact gh_78 | exact gh_79 | exact gh_80 | exact gh_81 | exact gh_83 | exact gh_84 | exact (gh_n (by first | omega | assumption)).trans (by assumption)) (by rfl) ?_
      refine ma_iload dX12_layNumbering_14 rfl ?_
      refine ma_iconst dX12_layNumbering_16 ?_
      refine ma_iast dX12_layNumbering_17 (by first | exact gh_78 | exact gh_79 | exact gh_80 | exact gh_81 | exact gh_83 | exact gh_84 | exact (gh_n (by first | omega | assumption)).trans (by assumption)) (by omega) (by omega) (by omega) ?_
      rw [gh_p78]
      refine ma_iincN dX12_layNumbering_18 rfl (by decide) rfl ?_
      refine ma_goto 3 dX12_layNumbering_21 rfl ?_
      exact ih (k + 1) _ (by omega) (by omega) (by omega) (fun j j0 j1 => by
        by_cases z : j = k
        · rw [z, uf_s]
        · rw [uf_n z]; exact hk j j0 (by omega))
theorem l_X12_lN27 {h : ma_H} {a nx d : Nat} {f0 p0 as : Int} {Q : Option ma_V → ma_H → Nat → Prop} {I : Nat → Int} {N M O C V : Int → Int} {x6 x7 x8 x9 x10 x11 x12 x13 : Option ma_V} (hM : h 73 = co 12 (mo I)) (KO : ∀ R, (∀ j, 0 ≤ j → j < 33 → R j = -1) → ma_J none mX12_layNumbering (d + 2) 0 0 48 [some (vr 73), some (vr a), some (vi f0), some (vi p0), some (vi as), some (vi 33), x6, x7, x8, x9, x10, x11, x12, x13] [] (gh h N M O R C V) nx Q) :
    ∀ (m : Nat) (k : Int) (R : Int → Int), 0 ≤ k → k ≤ 33 → 33 - k < m → (∀ j, 0 ≤ j → j < k → R j = -1) → ma_J none mX12_layNumbering (d + 2) 0 0 27 [some (vr 73), some (vr a), some (vi f0), some (vi p0), some (vi as), some (vi k), x6, x7, x8, x9, x10, x11, x12, x13] [] (gh h N M O R C V) nx Q := by
  intro m
  induction m with
  | zero => intro k R h0 h1 h2; omega
  | succ m ih =>
    intro k R h0 h1 h2 hk
    refine ma_iload dX12_layNumbering_27 rfl ?_
    refine ma_bipush dX12_layNumbering_29 ?_
    refine ma_rcmp_ge 48 dX12_layNumbering_31 rfl (by constructor <;> omega) (by constructor <;> omega) (fun c31 => ?_) (fun c31 => ?_)
    · -- 48
      have e4 : k = 33 := by omega
      subst e4
      exact KO R (fun j j0 j1 => hk j j0 j1)
    · -- 34
      refine ma_aload_n dX12_layNumbering_34 rfl ?_
      refine ma_getf dX12_layNumbering_35 fX12_33 (by first | exact gh_78 | exact gh_79 | exact gh_80 | exact gh_81 | exact gh_83 | exact gh_84 | exact (gh_n (by first | omega | assumption)).trans (by assumption)) (by rfl) ?_
      refine ma_iload dX12_layNumbering_38 rfl ?_
      refine ma_iconst dX12_layNumbering_40 ?_
      refine ma_iast dX12_layNumbering_41 (by first | exact gh_78 | exact gh_79 | exact gh_80 | exact gh_81 | exact gh_83 | exact gh_84 | exact (gh_n (by first | omega | assumption)).trans (by assumption)) (by omega) (by omega) (by omega) ?_
      rw [gh_p81]
      refine ma_iincN dX12_layNumbering_42 rfl (by decide) rfl ?_
      refine ma_goto 27 dX12_layNumbering_45 rfl ?_
      exact ih (k + 1) _ (by omega) (by omega) (by omega) (fun j j0 j1 => by
        by_cases z : j = k
        · rw [z, uf_s]
        · rw [uf_n z]; exact hk j j0 (by omega))
theorem rm_0 {t f p : Int} {N M O C : Int → Int} (hf : 0 ≤ f ∧ f < t) (hp : 0 ≤ p ∧ p < 24) (hN : ∀ j, 0 ≤ j → j < 8 → N j = -1) (h : ∀ c, 0 ≤ c → c < 4 → M (4 * f + c) = im p c ∧ C (4 * f + im p c) = c) : RM t (b0 f p) (uf N f 0) M (uf O 0 f) C := by
  refine ⟨fun s s0 s1 => ?_, fun j j0 j1 => ?_, fun s s0 s1 s2 c c0 c1 => ?_⟩
  · show uf N f 0 s = uf (fun _ => -1) f 0 s
    by_cases z : s = f
    · rw [z, uf_s, uf_s]
    · rw [uf_n z, uf_n z]; exact hN s s0 s1
  · have j1 : j < 1 := j1
    have e : j = 0 := by omega
    subst e
    show uf O 0 f 0 = uf (fun _ => 0) 0 f 0
    rw [uf_s, uf_s]
  · have s2 : 0 ≤ uf (fun _ => -1) f 0 s := s2
    by_cases z : s = f
    · subst z
      show M (4 * s + c) = im (uf (fun _ => 0) s p s) c ∧ C (4 * s + c) = im (iv (uf (fun _ => 0) s p s)) c
      rw [uf_s]
      have v := iv_in hp.1 hp.2
      have i := im_in v.1 v.2 c0 c1
      have w := (h _ i.1 i.2).2
      rw [(im_mi hp.1 hp.2 c0 c1).2] at w
      exact ⟨(h c c0 c1).1, w⟩
    · rw [uf_n z] at s2
      omega
set_option maxHeartbeats 2000000 in
theorem c_X12_layNumbering {h : ma_H} {a nx d : Nat} {f0 p0 as t : Int} {G Aa La L f : Int → Int} {Q : Option ma_V → ma_H → Nat → Prop} {I : Nat → Int} {N M O R C V : Int → Int} (hG : VG t G) (hM : h 73 = co 12 (mo I)) (h77 : h 77 = ci 64 f) (hf : PB f) (ha : h a = ci 33 Aa) (na : a < 78 ∨ 84 < a) (hAa : ∀ j, 0 ≤ j → j < 32 → Aa (1 + j) = cv (G j)) (h82 : h 82 = ci 33 La) (hLv : as = 1 → ∀ j, 0 ≤ j → j < 32 → La (1 + j) = cv (L j) ∧ vc (L j)) (hA0 : Aa 0 = t) (has : as = 0 ∨ as = 1) (hf0 : 0 ≤ f0 ∧ f0 < t) (hp : 0 ≤ p0 ∧ p0 < 24) (K0 : as = 1 → (∃ k, 0 ≤ k ∧ k < 4 * t ∧ (∀ j, 0 ≤ j → j < k → brow G f0 p0 j = L j) ∧ L k < brow G f0 p0 k) → ∀ N M O R C V, Q (some (vi 0)) (gh h N M O R C V) nx) (KF : ∀ (i sm : Int) (N M O R C V : Int → Int), 0 ≤ i → i ≤ t → BI t G (bst G f0 p0 (4 * i).toNat) (4 * i) → i = (bst G f0 p0 (4 * i).toNat).1 → TR t (brow G f0 p0) R (4 * i) → SMP as sm (brow G f0 p0) L (4 * i) → Q (some (vi i)) (gh h N M O R C V) nx) : ma_Ct mX12_layNumbering (d + 2) 0 0 [vr 73, vr a, vi f0, vi p0, vi as] (gh h N M O R C V) nx Q := by
  have htt := hG.1
  have hS0 : SMP as as (brow G f0 p0) L 0 := by
    rcases has with e | e
    · exact Or.inl ⟨e, e⟩
    · exact Or.inr (Or.inl ⟨e, e, fun j a b => by omega⟩)
  have K99 : ∀ (N R : Int → Int), (∀ j, 0 ≤ j → j < 8 → N j = -1) → (∀ j, 0 ≤ j → j < 33 → R j = -1) → ∀ M C, (∀ c, 0 ≤ c → c < 4 → M (4 * f0 + c) = im p0 c ∧ C (4 * f0 + im p0 c) = c) → ma_J none mX12_layNumbering (d + 2) 0 0 99 [some (vr 73), some (vr a), some (vi f0), some (vi p0), some (vi as), some (vi 4), none, none, none, none, none, none, none, none] [] (gh h (uf N f0 0) M (uf O 0 f0) (uf R 0 (Aa 0)) C V) nx Q := by
    intro N R hN hRm M C h74
    refine ma_iconst dX12_layNumbering_99 ?_
    refine ma_istoreN dX12_layNumbering_100 (by decide) rfl ?_
    refine ma_iload dX12_layNumbering_102 rfl ?_
    refine ma_istoreN dX12_layNumbering_104 (by decide) rfl ?_
    refine ma_iconst dX12_layNumbering_106 ?_
    refine ma_istoreN dX12_layNumbering_107 (by decide) rfl ?_
    exact l_X12_lN109 hG hM h77 hf ha na hAa h82 hLv K0 KF 9 0 as 1 _ M _ _ C V _ _ _ _ _ _ (by omega) (by omega) (by omega) (bf_0 (by omega) hf0 hp) (by show (0 : Int) ≤ 1; omega) rfl (rm_0 hf0 hp hN h74) ⟨by rw [uf_s]; exact hA0, fun j j0 j1 => by omega, fun j j0 j1 => by rw [uf_n (by omega)]; exact hRm _ (by omega) (by omega)⟩ hS0
  have K48 : ∀ (N R : Int → Int), (∀ j, 0 ≤ j → j < 8 → N j = -1) → (∀ j, 0 ≤ j → j < 33 → R j = -1) → ma_J none mX12_layNumbering (d + 2) 0 0 48 [some (vr 73), some (vr a), some (vi f0), some (vi p0), some (vi as), some (vi 33), none, none, none, none, none, none, none, none] [] (gh h N M O R C V) nx Q := by
    intro N R hN hRm
    refine ma_aload_n dX12_layNumbering_48 rfl ?_
    refine ma_getf dX12_layNumbering_49 fX12_33 (by first | exact gh_78 | exact gh_79 | exact gh_80 | exact gh_81 | exact gh_83 | exact gh_84 | exact (gh_n (by first | omega | assumption)).trans (by assumption)) (by rfl) ?_
    refine ma_iconst dX12_layNumbering_52 ?_
    refine ma_aload_n dX12_layNumbering_53 rfl ?_
    refine ma_iconst dX12_layNumbering_54 ?_
    refine ma_iald dX12_layNumbering_55 (by first | exact gh_78 | exact gh_79 | exact gh_80 | exact gh_81 | exact gh_83 | exact gh_84 | exact (gh_n (by first | omega | assumption)).trans (by assumption)) (by omega) (by omega) (by omega) ?_
    refine ma_iast dX12_layNumbering_56 (by first | exact gh_78 | exact gh_79 | exact gh_80 | exact gh_81 | exact gh_83 | exact gh_84 | exact (gh_n (by first | omega | assumption)).trans (by assumption)) (by omega) (by omega) (by omega) ?_
    rw [gh_p81]
    refine ma_aload_n dX12_layNumbering_57 rfl ?_
    refine ma_getf dX12_layNumbering_58 fX12_24 (by first | exact gh_78 | exact gh_79 | exact gh_80 | exact gh_81 | exact gh_83 | exact gh_84 | exact (gh_n (by first | omega | assumption)).trans (by assumption)) (by rfl) ?_
    refine ma_iload_n dX12_layNumbering_61 rfl ?_
    refine ma_iconst dX12_layNumbering_62 ?_
    refine ma_iast dX12_layNumbering_63 (by first | exact gh_78 | exact gh_79 | exact gh_80 | exact gh_81 | exact gh_83 | exact gh_84 | exact (gh_n (by first | omega | assumption)).trans (by assumption)) (by omega) (by omega) (by omega) ?_
    rw [gh_p78]
    refine ma_aload_n dX12_layNumbering_64 rfl ?_
    refine ma_getf dX12_layNumbering_65 fX12_30 (by first | exact gh_78 | exact gh_79 | exact gh_80 | exact gh_81 | exact gh_83 | exact gh_84 | exact (gh_n (by first | omega | assumption)).trans (by assumption)) (by rfl) ?_
    refine ma_iconst dX12_layNumbering_68 ?_
    refine ma_iload_n dX12_layNumbering_69 rfl ?_
    refine ma_iast dX12_layNumbering_70 (by first | exact gh_78 | exact gh_79 | exact gh_80 | exact gh_81 | exact gh_83 | exact gh_84 | exact (gh_n (by first | omega | assumption)).trans (by assumption)) (by omega) (by omega) (by omega) ?_
    rw [gh_p80]
    refine ma_iconst dX12_layNumbering_71 ?_
    refine ma_istoreN dX12_layNumbering_72 (by decide) rfl ?_
    exact l_X12_lN74 hM (by omega) hp (fun M C h74 => K99 N R hN hRm M C h74) 5 0 M C (by omega) (by omega) (by omega) (fun c' a b => by omega)
  have K24 : ∀ (N : Int → Int), (∀ j, 0 ≤ j → j < 8 → N j = -1) → ma_J none mX12_layNumbering (d + 2) 0 0 24 [some (vr 73), some (vr a), some (vi f0), some (vi p0), some (vi as), some (vi 8), none, none, none, none, none, none, none, none] [] (gh h N M O R C V) nx Q := by
    intro N hN
    refine ma_iconst dX12_layNumbering_24 ?_
    refine ma_istoreN dX12_layNumbering_25 (by decide) rfl ?_
    exact l_X12_lN27 hM (fun R hRm => K48 N R hN hRm) 34 0 R (by omega) (by omega) (by omega) (fun j a b => by omega)
  refine ma_Ct.of (by decide +kernel) (Nat.le_of_ble_eq_true rfl) ?_
  refine ma_iconst dX12_layNumbering_0 ?_
  refine ma_istoreN dX12_layNumbering_1 (by decide) rfl ?_
  exact l_X12_lN3 hM (fun N hN => K24 N hN) 9 0 N (by omega) (by omega) (by omega) (fun j a b => by omega)
