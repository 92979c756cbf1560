theorem gh_up {h : ma_H} {N M O R C V : Int → Int} {k : Nat} {c : ma_C} (hk : k < 78 ∨ 84 < k ∨ k = 82) : ma_up (gh h N M O R C V) k c = gh (ma_up h k c) N M O R C V := by
  funext j
  unfold gh
  by_cases e : j = k
  · subst e
    rw [ma_up_s, ma_up_n (by omega), ma_up_n (by omega), ma_up_n (by omega), ma_up_n (by omega), ma_up_n (by omega), ma_up_n (by omega), ma_up_s]
  · rw [ma_up_n e]
    simp only [ma_up, if_neg e]
theorem vc_row {t : Int} {G : Int → Int} {f p : Int} (hG : VG t G) (hC : CN t G) (hf : 0 ≤ f ∧ f < t) (hp : 0 ≤ p ∧ p < 24) {j : Int} (j0 : 0 ≤ j) (j1 : j < 4 * t) : vc (brow G f p j) := by
  have I := bf_all hG hC hf hp j.toNat (by omega)
  rw [Int.toNat_of_nonneg j0] at I
  exact (bw_cv hG j0 I (bf_conn hG hC I j0 j1)).1
/-- a row with -1 behind -/
def rw4 (t : Int) (B : Int → Int) : Int → Int := fun j => if j < 4 * t then B j else -1
/-- the least row so far in the model's search -/
def LQ (t : Int) (G L : Int → Int) (q ties : Int) : Prop := (∃ r, 0 ≤ r ∧ r < 24 * t ∧ L = rw4 t (rowq G r)) ∧ (∀ r, 0 ≤ r → r < q → ¬ lxl (4 * t) (rowq G r) L) ∧ ties = ct (fun r => eqn (4 * t) (rowq G r) L) q.toNat
/-- an array of the model and a solid -/
def AG (t : Int) (G A : Int → Int) : Prop := A 0 = t ∧ ∀ j, 0 ≤ j → j < 32 → A (1 + j) = cv (G j)
theorem rw_in {t : Int} {B : Int → Int} {j : Int} (h : j < 4 * t) : rw4 t B j = B j := if_pos h
theorem lq_vc {t : Int} {G L : Int → Int} {q ties : Int} (hG : VG t G) (hC : CN t G) (h : LQ t G L q ties) (j : Int) (j0 : 0 ≤ j) : vc (L j) := by
  obtain ⟨⟨r, r0, r1, e⟩, -⟩ := h
  rw [e]
  unfold rw4
  split
  · exact vc_row hG hC (by omega) (by omega) j0 (by assumption)
  · exact Or.inl rfl
theorem lq_more {t : Int} {G L : Int → Int} {q ties : Int} (q0 : 0 ≤ q) (h : LQ t G L q ties) (hl : lxl (4 * t) L (rowq G q)) : LQ t G L (q + 1) ties := by
  refine ⟨h.1, fun r r0 r1 z => ?_, ?_⟩
  · rcases Int.lt_or_eq_of_le (show r ≤ q by omega) with y | y
    · exact h.2.1 r r0 y z
    · subst y
      exact lxl_ne (lxl_tr z hl) (fun _ _ _ => rfl)
  · rw [ct_n (P := fun r => eqn (4 * t) (rowq G r) L) q0 (fun z => lxl_ne hl (eqn_sy z))]
    exact h.2.2
theorem lq_same {t : Int} {G L : Int → Int} {q ties : Int} (q0 : 0 ≤ q) (h : LQ t G L q ties) (hl : eqn (4 * t) (rowq G q) L) : LQ t G L (q + 1) (ties + 1) := by
  refine ⟨h.1, fun r r0 r1 z => ?_, ?_⟩
  · rcases Int.lt_or_eq_of_le (show r ≤ q by omega) with y | y
    · exact h.2.1 r r0 y z
    · subst y
      exact lxl_ne z hl
  · rw [ct_y (P := fun r => eqn (4 * t) (rowq G r) L) q0 hl, h.2.2]
theorem lq_less {t : Int} {G L : Int → Int} {q ties : Int} (q0 : 0 ≤ q) (q1 : q < 24 * t) (h : LQ t G L q ties) (hl : lxl (4 * t) (rowq G q) L) : LQ t G (rw4 t (rowq G q)) (q + 1) 1 := by
  have e : eqn (4 * t) (rw4 t (rowq G q)) (rowq G q) := fun j _ j1 => rw_in j1
  refine ⟨⟨q, q0, q1, rfl⟩, fun r r0 r1 z => ?_, ?_⟩
  · rcases Int.lt_or_eq_of_le (show r ≤ q by omega) with y | y
    · exact h.2.1 r r0 y (lxl_tr (lxl_er z e) hl)
    · subst y
      exact lxl_ne z (eqn_sy e)
  · have : ct (fun r => eqn (4 * t) (rowq G r) (rw4 t (rowq G q))) q.toNat = 0 := ct_0 _ (fun r r0 r1 z => h.2.1 r r0 (by omega) (lxl_el (eqn_tr z e) hl))
    rw [ct_y (P := fun r => eqn (4 * t) (rowq G r) (rw4 t (rowq G q))) q0 (eqn_sy e), this]
    rfl
theorem lq_li {t : Int} {G L : Int → Int} {ties : Int} (hG : VG t G) (hC : CN t G) (h : LQ t G L (24 * t) ties) : LI t G L (24 * t) ties := by
  have ht := hG.1
  refine ⟨fun j j0 j1 => ?_, fun z => by omega, fun _ => ?_, h.2.1, h.2.2⟩
  · have := lq_vc hG hC h j j0
    unfold vc at this
    unfold rg
    omega
  · obtain ⟨r, r0, r1, e⟩ := h.1
    exact ⟨r, r0, r1, fun j _ j1 => by rw [e, rw_in j1]⟩
theorem lq_0 {t : Int} {G : Int → Int} (ht : 1 ≤ t) : LQ t G (rw4 t (rowq G 0)) 0 0 := ⟨⟨0, by omega, by omega, rfl⟩, fun r r0 r1 => by omega, rfl⟩
theorem ag_tr {t : Int} {B R : Int → Int} (ht : 1 ≤ t ∧ t ≤ 8) (h : TR t B R (4 * t)) : AG t (rw4 t B) R := by
  refine ⟨h.1, fun j j0 j1 => ?_⟩
  unfold rw4
  split
  · exact h.2.1 j j0 (by assumption)
  · rw [cv_n (by omega)]
    exact h.2.2 j (by omega) j1
theorem ag_rg {t : Int} {L A : Int → Int} (ht : 1 ≤ t ∧ t ≤ 8) (hv : ∀ j, 0 ≤ j → vc (L j)) (h : AG t L A) : ∀ j, 0 ≤ j → j < 33 → rg (A j) := fun j j0 j1 => by
  unfold rg
  by_cases z : j = 0
  · rw [z, h.1]; omega
  · have := h.2 (j - 1) (by omega) (by omega)
    rw [show 1 + (j - 1) = j by omega] at this
    have w := (cv_lt (hv (j - 1) (by omega)) (hv (j - 1) (by omega))).2.2
    omega
/-- under CN a numbering that ended has all tets -/
theorem lay_t {t : Int} {G : Int → Int} {f p i : Int} (hG : VG t G) (hC : CN t G) (i0 : 0 ≤ i) (i1 : i ≤ t) (hI : BI t G (bst G f p (4 * i).toNat) (4 * i)) (e : i = (bst G f p (4 * i).toNat).1) : i = t := by
  rcases Int.lt_or_eq_of_le i1 with z | z
  · have := bf_conn hG hC hI (by omega) (by omega)
    omega
  · exact z
theorem up73 {h : ma_H} {I : Nat → Int} {m x : Int} {La : Int → Int} : ma_up (ma_up (ma_up h 73 (co 12 (mo (iu I 12 m)))) 82 (ci 33 La)) 73 (co 12 (mo (iu (iu I 12 m) 12 x))) = ma_up (ma_up h 73 (co 12 (mo (iu I 12 x)))) 82 (ci 33 La) := by
  rw [ma_up_cm _ _ _ (by decide : 82 ≠ 73), ma_up_up]
  congr 3
set_option maxHeartbeats 4000000 in
theorem l_X12_num43 {h : ma_H} {a nx d : Nat} {t : Int} {G Aa f : Int → Int} {Q : Option ma_V → ma_H → Nat → Prop} {I : Nat → Int} {tt : Int} (hG : VG t G) (hC : CN t G) (h77 : h 77 = ci 64 f) (hf : PB f) (ha : h a = ci 33 Aa) (na : 84 < a ∨ a = 74) (hA : AG t G Aa) (ht0 : 0 ≤ tt ∧ tt < t) (KO : ∀ (ties : Int) (La L N M O R C V : Int → Int), LQ t G L (24 * (tt + 1)) ties → AG t L La → ma_J none mX12_number (d + 3) 0 0 109 [some (vr 73), some (vr a), some (vi tt), some (vi 24)] [] (gh (ma_up (ma_up h 73 (co 12 (mo (iu I 12 ties)))) 82 (ci 33 La)) N M O R C V) nx Q) :
    ∀ (m : Nat) (p ties : Int) (La L N M O R C V : Int → Int), 0 ≤ p → p ≤ 24 → 24 - p < m → LQ t G L (24 * tt + p) ties → AG t L La → ma_J none mX12_number (d + 3) 0 0 43 [some (vr 73), some (vr a), some (vi tt), some (vi p)] [] (gh (ma_up (ma_up h 73 (co 12 (mo (iu I 12 ties)))) 82 (ci 33 La)) N M O R C V) nx Q := by
  have htt := hG.1
  intro m
  induction m with
  | zero => intro p ties La L N M O R C V h0 h1 h2; omega
  | succ m ih =>
    intro p ties La L N M O R C V h0 h1 h2 hQ hLa
    have hrq : p < 24 → rowq G (24 * tt + p) = brow G tt p := fun z => by
      unfold rowq
      rw [show (24 * tt + p) / 24 = tt by omega, show (24 * tt + p) % 24 = p by omega]
    refine ma_iload_n dX12_number_43 rfl ?_
    refine ma_bipush dX12_number_44 ?_
    refine ma_rcmp_ge 109 dX12_number_46 rfl (by constructor <;> omega) (by constructor <;> omega) (fun c46 => ?_) (fun c46 => ?_)
    · -- 109
      have e24 : p = 24 := by omega
      subst e24
      exact KO ties La L N M O R C V (by rw [show 24 * (tt + 1) = 24 * tt + 24 by omega]; exact hQ) hLa
    · -- 49
      have hrq := hrq (by omega)
      refine ma_aload_n dX12_number_49 rfl ?_
      refine ma_aload_n dX12_number_50 rfl ?_
      refine ma_iload_n dX12_number_51 rfl ?_
      refine ma_iload_n dX12_number_52 rfl ?_
      refine ma_iconst dX12_number_53 ?_
      refine ma_cV [_, _, _, _] dX12_number_54 wX12_layNumbering lX12_164 iX12_layNumbering sX12_layNumbering rfl (by first | exact (gh_n (by omega)).trans (ma_up_s _ _ _) | exact (gh_n (by omega)).trans ((ma_up_n (by decide)).trans (ma_up_s _ _ _)) | exact (gh_n (by omega)).trans ((ma_up_n (by omega)).trans ((ma_up_n (by omega)).trans (by assumption)))) (Nat.le_of_ble_eq_true rfl) ?_
      refine c_X12_layNumbering (L := L) hG ((ma_up_n (by decide)).trans (ma_up_s _ _ _)) ((ma_up_n (by decide)).trans ((ma_up_n (by decide)).trans h77)) hf ((ma_up_n (by omega)).trans ((ma_up_n (by omega)).trans ha)) (by omega) hA.2 (ma_up_s _ _ _) (fun _ j j0 j1 => ⟨hLa.2 j j0 j1, lq_vc hG hC hQ j j0⟩) hA.1 (Or.inr rfl) (by omega) (by omega) (fun _ hk N M O R C V => ?_) (fun i sm N M O R C V i0 i1 hI ei hT hS => ?_)
      · -- more
        have hlt : lxl (4 * t) L (rowq G (24 * tt + p)) := by
          rw [hrq]
          obtain ⟨k, k0, k1, k2, k3⟩ := hk
          exact ⟨k, k0, k1, fun j j0 j1 => (k2 j j0 j1).symm, k3⟩
        refine ma_rif_ne 63 dX12_number_57 rfl (by decide) (fun c57 => absurd c57 (by decide)) (fun c57 => ?_)
        refine ma_goto 103 dX12_number_60 rfl ?_
        refine ma_iincN dX12_number_103 rfl (by decide) rfl ?_
        refine ma_goto 43 dX12_number_106 rfl ?_
        exact ih (p + 1) ties La L _ _ _ _ _ _ (by omega) (by omega) (by omega) (by rw [show 24 * tt + (p + 1) = 24 * tt + p + 1 by omega]; exact lq_more (by omega) hQ hlt) hLa
      · -- not more
        have et : i = t := lay_t hG hC i0 i1 hI ei
        rw [et] at hT hS
        have hT' := ag_tr htt hT
        refine ma_rif_ne 63 dX12_number_57 rfl (by constructor <;> omega) (fun c57 => ?_) (fun c57 => absurd c57 (by omega))
        refine ma_aload_n dX12_number_63 rfl ?_
        refine ma_getf dX12_number_64 fX12_33 (by first | exact (gh_n (by omega)).trans (ma_up_s _ _ _) | exact (gh_n (by omega)).trans ((ma_up_n (by decide)).trans (ma_up_s _ _ _)) | exact (gh_n (by omega)).trans ((ma_up_n (by omega)).trans ((ma_up_n (by omega)).trans (by assumption)))) (by rfl) ?_
        refine ma_aload_n dX12_number_67 rfl ?_
        refine ma_getf dX12_number_68 fX12_36 (by first | exact (gh_n (by omega)).trans (ma_up_s _ _ _) | exact (gh_n (by omega)).trans ((ma_up_n (by decide)).trans (ma_up_s _ _ _)) | exact (gh_n (by omega)).trans ((ma_up_n (by omega)).trans ((ma_up_n (by omega)).trans (by assumption)))) (by rfl) ?_
        refine ma_cS [_, _] dX12_number_71 wX12_areAlike lX12_172 tX12_areAlike (Nat.le_of_ble_eq_true rfl) ?_
        refine c_X12_areAlike gh_81 ((gh_n (by omega)).trans (ma_up_s _ _ _)) (ag_rg htt (fun j j0 => by unfold rw4; split; exact vc_row hG hC (by omega) (by omega) j0 (by assumption); exact Or.inl rfl) hT') (ag_rg htt (fun j j0 => lq_vc hG hC hQ j j0) hLa) (fun hal => ?_) (fun hal => ?_)
        · -- k1
          have heq : eqn (4 * t) (rowq G (24 * tt + p)) L := fun j j0 j1 => by
            have w := hal (1 + j) (by omega) (by omega)
            rw [hT'.2 j j0 (by omega), hLa.2 j j0 (by omega), rw_in j1] at w
            rw [hrq]
            exact (cv_lt (vc_row hG hC (by omega) (by omega) j0 j1) (lq_vc hG hC hQ j j0)).2.1.mp w
          refine ma_rif_ne 82 dX12_number_74 rfl (by decide) (fun c74 => ?_) (fun c74 => absurd c74 (by decide))
          refine ma_aload_n dX12_number_82 rfl ?_
          refine ma_getf dX12_number_83 fX12_33 (by first | exact (gh_n (by omega)).trans (ma_up_s _ _ _) | exact (gh_n (by omega)).trans ((ma_up_n (by decide)).trans (ma_up_s _ _ _)) | exact (gh_n (by omega)).trans ((ma_up_n (by omega)).trans ((ma_up_n (by omega)).trans (by assumption)))) (by rfl) ?_
          refine ma_aload_n dX12_number_86 rfl ?_
          refine ma_getf dX12_number_87 fX12_36 (by first | exact (gh_n (by omega)).trans (ma_up_s _ _ _) | exact (gh_n (by omega)).trans ((ma_up_n (by decide)).trans (ma_up_s _ _ _)) | exact (gh_n (by omega)).trans ((ma_up_n (by omega)).trans ((ma_up_n (by omega)).trans (by assumption)))) (by rfl) ?_
          refine ma_cS [_, _] dX12_number_90 wX12_lay lX12_168 tX12_lay (Nat.le_of_ble_eq_true rfl) ?_
          refine c_X12_lay gh_81 ((gh_n (by omega)).trans (ma_up_s _ _ _)) (by decide) ?_
          rw [gh_up (by omega), ma_up_up]
          refine ma_aload_n dX12_number_93 rfl ?_
          refine ma_dup dX12_number_94 rfl ?_
          refine ma_getf dX12_number_95 fX12_161 (by first | exact (gh_n (by omega)).trans (ma_up_s _ _ _) | exact (gh_n (by omega)).trans ((ma_up_n (by decide)).trans (ma_up_s _ _ _)) | exact (gh_n (by omega)).trans ((ma_up_n (by omega)).trans ((ma_up_n (by omega)).trans (by assumption)))) (by rfl) ?_
          rw [iu_s]
          refine ma_iconst dX12_number_98 ?_
          refine ma_iadd dX12_number_99 ?_
          refine ma_puti dX12_number_100 fX12_161 (by first | exact (gh_n (by omega)).trans (ma_up_s _ _ _) | exact (gh_n (by omega)).trans ((ma_up_n (by decide)).trans (ma_up_s _ _ _)) | exact (gh_n (by omega)).trans ((ma_up_n (by omega)).trans ((ma_up_n (by omega)).trans (by assumption)))) (Nat.le_of_ble_eq_true rfl) ?_
          rw [gh_up (by omega), mo_12, up73]
          refine ma_iincN dX12_number_103 rfl (by decide) rfl ?_
          refine ma_goto 43 dX12_number_106 rfl ?_
          exact ih (p + 1) (ties + 1) R L _ _ _ _ _ _ (by omega) (by omega) (by omega) (by rw [show 24 * tt + (p + 1) = 24 * tt + p + 1 by omega]; exact lq_same (by omega) hQ heq) ⟨hT'.1, fun j j0 j1 => (hal (1 + j) (by omega) (by omega)).trans (hLa.2 j j0 j1)⟩
        · -- k0
          have hlt : lxl (4 * t) (rowq G (24 * tt + p)) L := by
            rw [hrq]
            rcases hS with ⟨z, -⟩ | ⟨-, -, z⟩ | ⟨-, -, z⟩
            · omega
            · exact absurd (fun j j0 j1 => by
                by_cases y : j = 0
                · rw [y, hT'.1, hLa.1]
                · have w1 := hT'.2 (j - 1) (by omega) (by omega)
                  have w2 := hLa.2 (j - 1) (by omega) (by omega)
                  rw [show 1 + (j - 1) = j by omega] at w1 w2
                  rw [w1, w2]
                  rcases Int.lt_or_le (j - 1) (4 * t) with x | x
                  · rw [rw_in x, z (j - 1) (by omega) x]
                  · obtain ⟨⟨r, r0, r1, er⟩, -⟩ := hQ
                    rw [er]
                    unfold rw4
                    rw [if_neg (by omega), if_neg (by omega)]) hal
            · exact z
          refine ma_rif_ne 82 dX12_number_74 rfl (by decide) (fun c74 => absurd c74 (by decide)) (fun c74 => ?_)
          refine ma_aload_n dX12_number_77 rfl ?_
          refine ma_iconst dX12_number_78 ?_
          refine ma_puti dX12_number_79 fX12_161 (by first | exact (gh_n (by omega)).trans (ma_up_s _ _ _) | exact (gh_n (by omega)).trans ((ma_up_n (by decide)).trans (ma_up_s _ _ _)) | exact (gh_n (by omega)).trans ((ma_up_n (by omega)).trans ((ma_up_n (by omega)).trans (by assumption)))) (Nat.le_of_ble_eq_true rfl) ?_
          rw [gh_up (by omega), mo_12, up73]
          refine ma_aload_n dX12_number_82 rfl ?_
          refine ma_getf dX12_number_83 fX12_33 (by first | exact (gh_n (by omega)).trans (ma_up_s _ _ _) | exact (gh_n (by omega)).trans ((ma_up_n (by decide)).trans (ma_up_s _ _ _)) | exact (gh_n (by omega)).trans ((ma_up_n (by omega)).trans ((ma_up_n (by omega)).trans (by assumption)))) (by rfl) ?_
          refine ma_aload_n dX12_number_86 rfl ?_
          refine ma_getf dX12_number_87 fX12_36 (by first | exact (gh_n (by omega)).trans (ma_up_s _ _ _) | exact (gh_n (by omega)).trans ((ma_up_n (by decide)).trans (ma_up_s _ _ _)) | exact (gh_n (by omega)).trans ((ma_up_n (by omega)).trans ((ma_up_n (by omega)).trans (by assumption)))) (by rfl) ?_
          refine ma_cS [_, _] dX12_number_90 wX12_lay lX12_168 tX12_lay (Nat.le_of_ble_eq_true rfl) ?_
          refine c_X12_lay gh_81 ((gh_n (by omega)).trans (ma_up_s _ _ _)) (by decide) ?_
          rw [gh_up (by omega), ma_up_up]
          refine ma_aload_n dX12_number_93 rfl ?_
          refine ma_dup dX12_number_94 rfl ?_
          refine ma_getf dX12_number_95 fX12_161 (by first | exact (gh_n (by omega)).trans (ma_up_s _ _ _) | exact (gh_n (by omega)).trans ((ma_up_n (by decide)).trans (ma_up_s _ _ _)) | exact (gh_n (by omega)).trans ((ma_up_n (by omega)).trans ((ma_up_n (by omega)).trans (by assumption)))) (by rfl) ?_
          rw [iu_s]
          refine ma_iconst dX12_number_98 ?_
          refine ma_iadd dX12_number_99 ?_
          refine ma_puti dX12_number_100 fX12_161 (by first | exact (gh_n (by omega)).trans (ma_up_s _ _ _) | exact (gh_n (by omega)).trans ((ma_up_n (by decide)).trans (ma_up_s _ _ _)) | exact (gh_n (by omega)).trans ((ma_up_n (by omega)).trans ((ma_up_n (by omega)).trans (by assumption)))) (Nat.le_of_ble_eq_true rfl) ?_
          rw [gh_up (by omega), mo_12, up73]
          refine ma_iincN dX12_number_103 rfl (by decide) rfl ?_
          refine ma_goto 43 dX12_number_106 rfl ?_
          exact ih (p + 1) (0 + 1) R (rw4 t (rowq G (24 * tt + p))) _ _ _ _ _ _ (by omega) (by omega) (by omega) (by rw [show 24 * tt + (p + 1) = 24 * tt + p + 1 by omega]; exact lq_less (by omega) (by omega) hQ hlt) (by rw [hrq]; exact hT')
set_option maxHeartbeats 2000000 in
theorem l_X12_num34 {h : ma_H} {a nx d : Nat} {t : Int} {G Aa f : Int → Int} {Q : Option ma_V → ma_H → Nat → Prop} {I : Nat → Int} (hG : VG t G) (hC : CN t G) (h77 : h 77 = ci 64 f) (hf : PB f) (ha : h a = ci 33 Aa) (na : 84 < a ∨ a = 74) (hA : AG t G Aa) (K : ∀ (L La : Int → Int) (ties : Int) (N M O R C V : Int → Int), LI t G L (24 * t) ties → AG t L La → (∀ j, 4 * t ≤ j → L j = -1) → Q (some (vi 1)) (gh (ma_up (ma_up (ma_up h 73 (co 12 (mo (iu I 12 ties)))) 82 (ci 33 La)) a (ci 33 La)) N M O R C V) nx) :
    ∀ (m : Nat) (tt ties : Int) (La L N M O R C V : Int → Int) (x3 : Option ma_V), 0 ≤ tt → tt ≤ t → t - tt < m → LQ t G L (24 * tt) ties → AG t L La → ma_J none mX12_number (d + 3) 0 0 34 [some (vr 73), some (vr a), some (vi tt), x3] [] (gh (ma_up (ma_up h 73 (co 12 (mo (iu I 12 ties)))) 82 (ci 33 La)) N M O R C V) nx Q := by
  have htt := hG.1
  intro m
  induction m with
  | zero => intro tt ties La L N M O R C V x3 h0 h1 h2; omega
  | succ m ih =>
    intro tt ties La L N M O R C V x3 h0 h1 h2 hQ hLa
    have KO2 : tt < t → ∀ (ties' : Int) (La' L' N' M' O' R' C' V' : Int → Int), LQ t G L' (24 * (tt + 1)) ties' → AG t L' La' → ma_J none mX12_number (d + 3) 0 0 109 [some (vr 73), some (vr a), some (vi tt), some (vi 24)] [] (gh (ma_up (ma_up h 73 (co 12 (mo (iu I 12 ties')))) 82 (ci 33 La')) N' M' O' R' C' V') nx Q := by
      intro htl ties' La' L' N' M' O' R' C' V' q' a'
      refine ma_iincN dX12_number_109 rfl (by decide) rfl ?_
      refine ma_goto 34 dX12_number_112 rfl ?_
      exact ih (tt + 1) ties' La' L' N' M' O' R' C' V' _ (by omega) (by omega) (by omega) q' a'
    refine ma_iload_n dX12_number_34 rfl ?_
    refine ma_aload_n dX12_number_35 rfl ?_
    refine ma_iconst dX12_number_36 ?_
    refine ma_iald dX12_number_37 (by first | exact (gh_n (by omega)).trans (ma_up_s _ _ _) | exact (gh_n (by omega)).trans ((ma_up_n (by decide)).trans (ma_up_s _ _ _)) | exact (gh_n (by omega)).trans ((ma_up_n (by omega)).trans ((ma_up_n (by omega)).trans (by assumption)))) (by omega) (by omega) (by omega) ?_
    rw [hA.1]
    refine ma_rcmp_ge 115 dX12_number_38 rfl (by constructor <;> omega) (by constructor <;> omega) (fun c38 => ?_) (fun c38 => ?_)
    · -- 115
      refine ma_aload_n dX12_number_115 rfl ?_
      refine ma_getf dX12_number_116 fX12_36 (by first | exact (gh_n (by omega)).trans (ma_up_s _ _ _) | exact (gh_n (by omega)).trans ((ma_up_n (by decide)).trans (ma_up_s _ _ _)) | exact (gh_n (by omega)).trans ((ma_up_n (by omega)).trans ((ma_up_n (by omega)).trans (by assumption)))) (by rfl) ?_
      refine ma_aload_n dX12_number_119 rfl ?_
      refine ma_cS [_, _] dX12_number_120 wX12_lay lX12_168 tX12_lay (Nat.le_of_ble_eq_true rfl) ?_
      refine c_X12_lay ((gh_n (by omega)).trans (ma_up_s _ _ _)) ((gh_n (by omega)).trans ((ma_up_n (by omega)).trans ((ma_up_n (by omega)).trans ha))) (by omega) ?_
      rw [gh_up (by omega)]
      refine ma_iconst dX12_number_123 ?_
      exact ma_zret dX12_number_124 rfl (Or.inr rfl) (K L La ties N M O R C V (lq_li hG hC (by rw [show 24 * t = 24 * tt by omega]; exact hQ)) hLa (fun j hj => by obtain ⟨⟨r, r0, r1, e⟩, -⟩ := hQ; rw [e]; unfold rw4; rw [if_neg (by omega)]))
    · -- 41
      refine ma_iconst dX12_number_41 ?_
      refine ma_istore_nN dX12_number_42 (by decide) rfl ?_
      exact l_X12_num43 hG hC h77 hf ha na hA (by omega) (fun ties' La' L' N' M' O' R' C' V' q' a' => KO2 (by omega) ties' La' L' N' M' O' R' C' V' q' a') 25 0 ties La L N M O R C V (by omega) (by omega) (by omega) (by rw [show 24 * tt + 0 = 24 * tt by omega]; exact hQ) hLa
set_option maxHeartbeats 2000000 in
theorem c_X12_number {h : ma_H} {a nx d : Nat} {t : Int} {G Aa f : Int → Int} {Q : Option ma_V → ma_H → Nat → Prop} {I : Nat → Int} {La0 N M O R C V : Int → Int} (hG : VG t G) (hC : CN t G) (h77 : h 77 = ci 64 f) (hf : PB f) (ha : h a = ci 33 Aa) (na : 84 < a ∨ a = 74) (hA : AG t G Aa) (hM : h 73 = co 12 (mo I)) (h82 : h 82 = ci 33 La0) (K : ∀ (L La : Int → Int) (ties : Int) (N M O R C V : Int → Int), LI t G L (24 * t) ties → AG t L La → (∀ j, 4 * t ≤ j → L j = -1) → Q (some (vi 1)) (gh (ma_up (ma_up (ma_up h 73 (co 12 (mo (iu I 12 ties)))) 82 (ci 33 La)) a (ci 33 La)) N M O R C V) nx) : ma_Ct mX12_number (d + 3) 0 0 [vr 73, vr a] (gh h N M O R C V) nx Q := by
  have htt := hG.1
  refine ma_Ct.of (by decide +kernel) (Nat.le_of_ble_eq_true rfl) ?_
  refine ma_aload_n dX12_number_0 rfl ?_
  refine ma_iconst dX12_number_1 ?_
  refine ma_puti dX12_number_2 fX12_161 (by first | exact (gh_n (by omega)).trans (ma_up_s _ _ _) | exact (gh_n (by omega)).trans (by assumption) | exact (gh_n (by omega)).trans ((ma_up_n (by omega)).trans (by assumption))) (Nat.le_of_ble_eq_true rfl) ?_
  rw [gh_up (by omega), mo_12]
  refine ma_aload_n dX12_number_5 rfl ?_
  refine ma_aload_n dX12_number_6 rfl ?_
  refine ma_iconst dX12_number_7 ?_
  refine ma_iconst dX12_number_8 ?_
  refine ma_iconst dX12_number_9 ?_
  refine ma_cV [_, _, _, _] dX12_number_10 wX12_layNumbering lX12_164 iX12_layNumbering sX12_layNumbering rfl (by first | exact (gh_n (by omega)).trans (ma_up_s _ _ _) | exact (gh_n (by omega)).trans (by assumption) | exact (gh_n (by omega)).trans ((ma_up_n (by omega)).trans (by assumption))) (Nat.le_of_ble_eq_true rfl) ?_
  refine c_X12_layNumbering (L := fun _ => 0) hG (ma_up_s _ _ _) ((ma_up_n (by decide)).trans h77) hf ((ma_up_n (by omega)).trans ha) (by omega) hA.2 ((ma_up_n (by decide)).trans h82) (fun z => absurd z (by decide)) hA.1 (Or.inl rfl) (by omega) (by decide) (fun z => absurd z (by decide)) (fun i sm N M O R C V i0 i1 hI ei hT hS => ?_)
  have et : i = t := lay_t hG hC i0 i1 hI ei
  rw [et] at hT ⊢
  have hT' := ag_tr htt hT
  refine ma_aload_n dX12_number_13 rfl ?_
  refine ma_iconst dX12_number_14 ?_
  refine ma_iald dX12_number_15 (by first | exact (gh_n (by omega)).trans (ma_up_s _ _ _) | exact (gh_n (by omega)).trans (by assumption) | exact (gh_n (by omega)).trans ((ma_up_n (by omega)).trans (by assumption))) (by omega) (by omega) (by omega) ?_
  rw [hA.1]
  refine ma_rcmp_ge 21 dX12_number_16 rfl (by constructor <;> omega) (by constructor <;> omega) (fun c16 => ?_) (fun c16 => ?_)
  · -- 21
    refine ma_aload_n dX12_number_21 rfl ?_
    refine ma_getf dX12_number_22 fX12_33 (by first | exact (gh_n (by omega)).trans (ma_up_s _ _ _) | exact (gh_n (by omega)).trans (by assumption) | exact (gh_n (by omega)).trans ((ma_up_n (by omega)).trans (by assumption))) (by rfl) ?_
    refine ma_aload_n dX12_number_25 rfl ?_
    refine ma_getf dX12_number_26 fX12_36 (by first | exact (gh_n (by omega)).trans (ma_up_s _ _ _) | exact (gh_n (by omega)).trans (by assumption) | exact (gh_n (by omega)).trans ((ma_up_n (by omega)).trans (by assumption))) (by rfl) ?_
    refine ma_cS [_, _] dX12_number_29 wX12_lay lX12_168 tX12_lay (Nat.le_of_ble_eq_true rfl) ?_
    refine c_X12_lay gh_81 ((gh_n (by omega)).trans ((ma_up_n (by decide)).trans h82)) (by decide) ?_
    rw [gh_up (by omega)]
    refine ma_iconst dX12_number_32 ?_
    refine ma_istore_nN dX12_number_33 (by decide) rfl ?_
    exact l_X12_num34 hG hC h77 hf ha na hA K 9 0 0 R (rw4 t (rowq G 0)) N M O R C V _ (by omega) (by omega) (by omega) (lq_0 htt.1) hT'
  · -- 19
    refine ma_iconst dX12_number_19 ?_
    exfalso; omega
