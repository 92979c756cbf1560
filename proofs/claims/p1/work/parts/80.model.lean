/-- the model's fields: arrays at their places, ints I -/
abbrev mo (I : Nat → Int) : List ma_V := [vr 74, vr 75, vi (I 2), vr 76, vi (I 4), vi (I 5), vr 77, vr 78, vr 79, vr 80, vr 81, vr 82, vi (I 12), vr 83, vr 84, vi (I 15), vi (I 16), vi (I 17), vr 85, vr 86, vr 87, vr 88, vi (I 22), vr 89, vr 90, vi (I 25), vr 91, vi (I 27), vi (I 28), vi (I 29), vr 92, vr 93, vi (I 32), vr 94, vi (I 34), vr 95, vr 96, vr 97, vr 98, vr 99, vi (I 40), vr 100, vr 101, vi (I 43), vi (I 44), vi (I 45), vi (I 46), vi (I 47), vr 102, vr 103, vi (I 50), vr 104, vr 105, vr 106, vr 107, vr 108, vi (I 56), vr 109, vr 110, vi (I 59)]
def iu (I : Nat → Int) (k : Nat) (x : Int) : Nat → Int := fun j => if j = k then x else I j
theorem iu_s (I : Nat → Int) (k : Nat) (x : Int) : iu I k x k = x := if_pos rfl
theorem iu_n {I : Nat → Int} {k j : Nat} {x : Int} (h : j ≠ k) : iu I k x j = I j := if_neg h
theorem mo_2 (I : Nat → Int) (x : Int) : (mo I).set 2 (vi x) = mo (iu I 2 x) := rfl
theorem mo_4 (I : Nat → Int) (x : Int) : (mo I).set 4 (vi x) = mo (iu I 4 x) := rfl
theorem mo_5 (I : Nat → Int) (x : Int) : (mo I).set 5 (vi x) = mo (iu I 5 x) := rfl
theorem mo_12 (I : Nat → Int) (x : Int) : (mo I).set 12 (vi x) = mo (iu I 12 x) := rfl
theorem mo_15 (I : Nat → Int) (x : Int) : (mo I).set 15 (vi x) = mo (iu I 15 x) := rfl
theorem mo_16 (I : Nat → Int) (x : Int) : (mo I).set 16 (vi x) = mo (iu I 16 x) := rfl
theorem mo_17 (I : Nat → Int) (x : Int) : (mo I).set 17 (vi x) = mo (iu I 17 x) := rfl
theorem mo_22 (I : Nat → Int) (x : Int) : (mo I).set 22 (vi x) = mo (iu I 22 x) := rfl
theorem mo_25 (I : Nat → Int) (x : Int) : (mo I).set 25 (vi x) = mo (iu I 25 x) := rfl
theorem mo_27 (I : Nat → Int) (x : Int) : (mo I).set 27 (vi x) = mo (iu I 27 x) := rfl
theorem mo_28 (I : Nat → Int) (x : Int) : (mo I).set 28 (vi x) = mo (iu I 28 x) := rfl
theorem mo_29 (I : Nat → Int) (x : Int) : (mo I).set 29 (vi x) = mo (iu I 29 x) := rfl
theorem mo_32 (I : Nat → Int) (x : Int) : (mo I).set 32 (vi x) = mo (iu I 32 x) := rfl
theorem mo_34 (I : Nat → Int) (x : Int) : (mo I).set 34 (vi x) = mo (iu I 34 x) := rfl
theorem mo_40 (I : Nat → Int) (x : Int) : (mo I).set 40 (vi x) = mo (iu I 40 x) := rfl
theorem mo_43 (I : Nat → Int) (x : Int) : (mo I).set 43 (vi x) = mo (iu I 43 x) := rfl
theorem mo_44 (I : Nat → Int) (x : Int) : (mo I).set 44 (vi x) = mo (iu I 44 x) := rfl
theorem mo_45 (I : Nat → Int) (x : Int) : (mo I).set 45 (vi x) = mo (iu I 45 x) := rfl
theorem mo_46 (I : Nat → Int) (x : Int) : (mo I).set 46 (vi x) = mo (iu I 46 x) := rfl
theorem mo_47 (I : Nat → Int) (x : Int) : (mo I).set 47 (vi x) = mo (iu I 47 x) := rfl
theorem mo_50 (I : Nat → Int) (x : Int) : (mo I).set 50 (vi x) = mo (iu I 50 x) := rfl
theorem mo_56 (I : Nat → Int) (x : Int) : (mo I).set 56 (vi x) = mo (iu I 56 x) := rfl
theorem mo_59 (I : Nat → Int) (x : Int) : (mo I).set 59 (vi x) = mo (iu I 59 x) := rfl
theorem tf_5 : ma_tf 5 = ma_tf 0 := rfl
theorem tb_5 (p c : Int) : ma_tf 5 (4 * p + c) = im p c := rfl
theorem c_X12_in {h : ma_H} {nx d : Nat} {v a b : Int} {Q : Option ma_V → ma_H → Nat → Prop} (hv : rg v) (ha : rg a) (hb : rg b) (K1 : a ≤ v → v ≤ b → Q (some (vi 1)) h nx) (K0 : ¬ (a ≤ v ∧ v ≤ b) → Q (some (vi 0)) h nx) : ma_Ct mX12_in d 0 0 [vi v, vi a, vi b] h nx Q := by
  unfold rg at hv ha hb
  refine ma_Ct.of (by decide +kernel) (Nat.le_of_ble_eq_true rfl) ?_
  refine ma_iload_n dX12_in_0 rfl ?_
  refine ma_iload_n dX12_in_1 rfl ?_
  refine ma_rcmp_lt 14 dX12_in_2 rfl (by constructor <;> omega) (by constructor <;> omega) (fun c2 => ?_) (fun c2 => ?_)
  · -- 14
    refine ma_iconst dX12_in_14 ?_
    first | exact ma_zret dX12_in_15 rfl (Or.inr rfl) (K1 (by omega) (by omega)) | exact ma_zret dX12_in_15 rfl (Or.inl rfl) (K0 (by omega))
  · -- 5
    refine ma_iload_n dX12_in_5 rfl ?_
    refine ma_iload_n dX12_in_6 rfl ?_
    refine ma_rcmp_gt 14 dX12_in_7 rfl (by constructor <;> omega) (by constructor <;> omega) (fun c7 => ?_) (fun c7 => ?_)
    · -- 14
      refine ma_iconst dX12_in_14 ?_
      first | exact ma_zret dX12_in_15 rfl (Or.inr rfl) (K1 (by omega) (by omega)) | exact ma_zret dX12_in_15 rfl (Or.inl rfl) (K0 (by omega))
    · -- 10
      refine ma_iconst dX12_in_10 ?_
      refine ma_goto 15 dX12_in_11 rfl ?_
      first | exact ma_zret dX12_in_15 rfl (Or.inr rfl) (K1 (by omega) (by omega)) | exact ma_zret dX12_in_15 rfl (Or.inl rfl) (K0 (by omega))
theorem c_X12_image {h : ma_H} {nx d : Nat} {p c : Int} {Q : Option ma_V → ma_H → Nat → Prop} (hp : 0 ≤ p ∧ p < 24) (hc : 0 ≤ c ∧ c < 4) (K : Q (some (vi (im p c))) h nx) : ma_Ct mX12_image d 0 0 [vi p, vi c] h nx Q := by
  refine ma_Ct.of (by decide +kernel) (Nat.le_of_ble_eq_true rfl) ?_
  refine ma_gets (j := 5) dX12_image_0 (by decide) gX12_135 ?_
  refine ma_iconst dX12_image_3 ?_
  refine ma_iload_n dX12_image_4 rfl ?_
  refine ma_imul dX12_image_5 ?_
  refine ma_iload_n dX12_image_6 rfl ?_
  refine ma_iadd dX12_image_7 ?_
  refine ma_tald (j := 5) (n := 96) dX12_image_8 (by decide) tl_5 (by omega) (by omega) (by decide) ?_
  exact ma_iret dX12_image_9 rfl K
/-- permutations by their first three images -/
def PB (f : Int → Int) : Prop := ∀ p, 0 ≤ p → p < 24 → f (16 * im p 0 + 4 * im p 1 + im p 2) = p
theorem c_X12_permOf {h : ma_H} {nx d : Nat} {p a b c : Int} {f : Int → Int} {Q : Option ma_V → ma_H → Nat → Prop} {I : Nat → Int} (hM : h 73 = co 12 (mo I)) (h1 : h 77 = ci 64 f) (hf : PB f) (hp : 0 ≤ p ∧ p < 24) (ea : a = im p 0) (eb : b = im p 1) (ec : c = im p 2) (K : Q (some (vi p)) h nx) : ma_Ct mX12_permOf d 0 0 [vr 73, vi a, vi b, vi c] h nx Q := by
  have i0 := im_in hp.1 hp.2 (show (0 : Int) ≤ 0 by decide) (by decide)
  have i1 := im_in hp.1 hp.2 (show (0 : Int) ≤ 1 by decide) (by decide)
  have i2 := im_in hp.1 hp.2 (show (0 : Int) ≤ 2 by decide) (by decide)
  subst ea
  subst eb
  subst ec
  refine ma_Ct.of (by decide +kernel) (Nat.le_of_ble_eq_true rfl) ?_
  refine ma_aload_n dX12_permOf_0 rfl ?_
  refine ma_getf dX12_permOf_1 fX12_21 (by assumption) (by rfl) ?_
  refine ma_bipush dX12_permOf_4 ?_
  refine ma_iload_n dX12_permOf_6 rfl ?_
  refine ma_imul dX12_permOf_7 ?_
  refine ma_iconst dX12_permOf_8 ?_
  refine ma_iload_n dX12_permOf_9 rfl ?_
  refine ma_imul dX12_permOf_10 ?_
  refine ma_iadd dX12_permOf_11 ?_
  refine ma_iload_n dX12_permOf_12 rfl ?_
  refine ma_iadd dX12_permOf_13 ?_
  refine ma_iald dX12_permOf_14 (by assumption) (by omega) (by omega) (by omega) ?_
  rw [hf p hp.1 hp.2]
  exact ma_iret dX12_permOf_15 rfl K
theorem c_X12_glue {h : ma_H} {a nx d : Nat} {t f : Int} {A : Int → Int} {Q : Option ma_V → ma_H → Nat → Prop} (ha : h a = ci 33 A) (ht : 0 ≤ t ∧ t < 8) (hf : 0 ≤ f ∧ f < 4) (K : Q (some (vi (A (1 + 4 * t + f)))) h nx) : ma_Ct mX12_glue d 0 0 [vr a, vi t, vi f] h nx Q := by
  refine ma_Ct.of (by decide +kernel) (Nat.le_of_ble_eq_true rfl) ?_
  refine ma_aload_n dX12_glue_0 rfl ?_
  refine ma_iconst dX12_glue_1 ?_
  refine ma_iconst dX12_glue_2 ?_
  refine ma_iload_n dX12_glue_3 rfl ?_
  refine ma_imul dX12_glue_4 ?_
  refine ma_iadd dX12_glue_5 ?_
  refine ma_iload_n dX12_glue_6 rfl ?_
  refine ma_iadd dX12_glue_7 ?_
  refine ma_iald dX12_glue_8 (by assumption) (by omega) (by omega) (by omega) ?_
  exact ma_iret dX12_glue_9 rfl K
theorem c_X12_put {h : ma_H} {a nx d : Nat} {t f v : Int} {A : Int → Int} {Q : Option ma_V → ma_H → Nat → Prop} (ha : h a = ci 33 A) (ht : 0 ≤ t ∧ t < 8) (hf : 0 ≤ f ∧ f < 4) (K : Q none (ma_up h a (ci 33 (uf A (1 + 4 * t + f) v))) nx) : ma_Ct mX12_put d 0 0 [vr a, vi t, vi f, vi v] h nx Q := by
  refine ma_Ct.of (by decide +kernel) (Nat.le_of_ble_eq_true rfl) ?_
  refine ma_aload_n dX12_put_0 rfl ?_
  refine ma_iconst dX12_put_1 ?_
  refine ma_iconst dX12_put_2 ?_
  refine ma_iload_n dX12_put_3 rfl ?_
  refine ma_imul dX12_put_4 ?_
  refine ma_iadd dX12_put_5 ?_
  refine ma_iload_n dX12_put_6 rfl ?_
  refine ma_iadd dX12_put_7 ?_
  refine ma_iload_n dX12_put_8 rfl ?_
  refine ma_iast dX12_put_9 (by assumption) (by omega) (by omega) (by omega) ?_
  exact ma_vret dX12_put_10 rfl K
theorem c_X12_name {h : ma_H} {nx d : Nat} {t c n : Int} {A C : Int → Int} {Q : Option ma_V → ma_H → Nat → Prop} {I : Nat → Int} (hM : h 73 = co 12 (mo I)) (h1 : h 79 = ci 32 A) (h2 : h 83 = ci 32 C) (ht : 0 ≤ t ∧ t < 8) (hc : 0 ≤ c ∧ c < 4) (hn : 0 ≤ n ∧ n < 4) (K : Q none (ma_up (ma_up h 79 (ci 32 (uf A (4 * t + c) n))) 83 (ci 32 (uf C (4 * t + n) c))) nx) : ma_Ct mX12_name d 0 0 [vr 73, vi t, vi c, vi n] h nx Q := by
  refine ma_Ct.of (by decide +kernel) (Nat.le_of_ble_eq_true rfl) ?_
  refine ma_aload_n dX12_name_0 rfl ?_
  refine ma_getf dX12_name_1 fX12_27 (by first | assumption | exact (ma_up_n (by decide)).trans (by assumption)) (by rfl) ?_
  refine ma_iconst dX12_name_4 ?_
  refine ma_iload_n dX12_name_5 rfl ?_
  refine ma_imul dX12_name_6 ?_
  refine ma_iload_n dX12_name_7 rfl ?_
  refine ma_iadd dX12_name_8 ?_
  refine ma_iload_n dX12_name_9 rfl ?_
  refine ma_iast dX12_name_10 (by first | assumption | exact (ma_up_n (by decide)).trans (by assumption)) (by omega) (by omega) (by omega) ?_
  refine ma_aload_n dX12_name_11 rfl ?_
  refine ma_getf dX12_name_12 fX12_39 (by first | assumption | exact (ma_up_n (by decide)).trans (by assumption)) (by rfl) ?_
  refine ma_iconst dX12_name_15 ?_
  refine ma_iload_n dX12_name_16 rfl ?_
  refine ma_imul dX12_name_17 ?_
  refine ma_iload_n dX12_name_18 rfl ?_
  refine ma_iadd dX12_name_19 ?_
  refine ma_iload_n dX12_name_20 rfl ?_
  refine ma_iast dX12_name_21 (by first | assumption | exact (ma_up_n (by decide)).trans (by assumption)) (by omega) (by omega) (by omega) ?_
  exact ma_vret dX12_name_22 rfl K
theorem l_X12_lay {h : ma_H} {a b nx d : Nat} {A : Int → Int} {Q : Option ma_V → ma_H → Nat → Prop} (ha : h a = ci 33 A) (ab : a ≠ b) (K : Q none (ma_up h b (ci 33 A)) nx) :
    ∀ (m : Nat) (k : Int) (C : Int → Int), 0 ≤ k → k ≤ 33 → 33 - k < m → (∀ j, 0 ≤ j → j < k → C j = A j) → ma_J none mX12_lay d 0 0 2 [some (vr a), some (vr b), some (vi k)] [] (ma_up h b (ci 33 C)) nx Q := by
  intro m
  induction m with
  | zero => intro k C h0 h1 h2; omega
  | succ m ih =>
    intro k C h0 h1 h2 hC
    refine ma_iload_n dX12_lay_2 rfl ?_
    refine ma_bipush dX12_lay_3 ?_
    refine ma_rcmp_ge 20 dX12_lay_5 rfl (by constructor <;> omega) (by constructor <;> omega) (fun c5 => ?_) (fun c5 => ?_)
    · -- 20
      refine ma_ext A (ma_up_s _ _ _) (fun j j0 j1 => hC j j0 (by omega)) ?_
      rw [ma_up_up]
      exact ma_vret dX12_lay_20 rfl K
    · -- 8
      refine ma_aload_n dX12_lay_8 rfl ?_
      refine ma_iload_n dX12_lay_9 rfl ?_
      refine ma_aload_n dX12_lay_10 rfl ?_
      refine ma_iload_n dX12_lay_11 rfl ?_
      refine ma_iald dX12_lay_12 (by first | exact ma_up_s _ _ _ | exact (ma_up_n (by assumption)).trans (by assumption)) (by omega) (by omega) (by omega) ?_
      refine ma_iast dX12_lay_13 (by first | exact ma_up_s _ _ _ | exact (ma_up_n (by assumption)).trans (by assumption)) (by omega) (by omega) (by omega) ?_
      rw [ma_up_up]
      refine ma_iincN dX12_lay_14 rfl (by decide) rfl ?_
      refine ma_goto 2 dX12_lay_17 rfl ?_
      exact ih (k + 1) _ (by omega) (by omega) (by omega) (fun j j0 j1 => by
        by_cases z : j = k
        · rw [z, uf_s]
        · rw [uf_n z]; exact hC j j0 (by omega))
theorem c_X12_lay {h : ma_H} {a b nx d : Nat} {A C : Int → Int} {Q : Option ma_V → ma_H → Nat → Prop} (ha : h a = ci 33 A) (hb : h b = ci 33 C) (ab : a ≠ b) (K : Q none (ma_up h b (ci 33 A)) nx) : ma_Ct mX12_lay d 0 0 [vr a, vr b] h nx Q := by
  refine ma_Ct.of (by decide +kernel) (Nat.le_of_ble_eq_true rfl) ?_
  rw [show h = ma_up h b (ci 33 C) from (ma_up_id hb).symm]
  refine ma_iconst dX12_lay_0 ?_
  refine ma_istore_nN dX12_lay_1 (by decide) rfl ?_
  exact l_X12_lay ha ab K 34 0 C (by omega) (by omega) (by omega) (fun j j0 j1 => by omega)
theorem l_X12_areAlike {h : ma_H} {a b nx d : Nat} {A C : Int → Int} {Q : Option ma_V → ma_H → Nat → Prop} (ha : h a = ci 33 A) (hb : h b = ci 33 C) (rA : ∀ j, 0 ≤ j → j < 33 → rg (A j)) (rC : ∀ j, 0 ≤ j → j < 33 → rg (C j)) (K1 : (∀ j, 0 ≤ j → j < 33 → A j = C j) → Q (some (vi 1)) h nx) (K0 : ¬ (∀ j, 0 ≤ j → j < 33 → A j = C j) → Q (some (vi 0)) h nx) :
    ∀ (m : Nat) (k : Int), 0 ≤ k → k ≤ 33 → 33 - k < m → (∀ j, 0 ≤ j → j < k → A j = C j) → ma_J none mX12_areAlike d 0 0 2 [some (vr a), some (vr b), some (vi k)] [] h nx Q := by
  intro m
  induction m with
  | zero => intro k h0 h1 h2; omega
  | succ m ih =>
    intro k h0 h1 h2 hk
    refine ma_iload_n dX12_areAlike_2 rfl ?_
    refine ma_bipush dX12_areAlike_3 ?_
    refine ma_rcmp_ge 25 dX12_areAlike_5 rfl (by constructor <;> omega) (by constructor <;> omega) (fun c5 => ?_) (fun c5 => ?_)
    · -- 25
      refine ma_iconst dX12_areAlike_25 ?_
      exact ma_zret dX12_areAlike_26 rfl (Or.inr rfl) (K1 (fun j j0 j1 => hk j j0 (by omega)))
    · -- 8
      refine ma_aload_n dX12_areAlike_8 rfl ?_
      refine ma_iload_n dX12_areAlike_9 rfl ?_
      refine ma_iald dX12_areAlike_10 (by assumption) (by omega) (by omega) (by omega) ?_
      refine ma_aload_n dX12_areAlike_11 rfl ?_
      refine ma_iload_n dX12_areAlike_12 rfl ?_
      refine ma_iald dX12_areAlike_13 (by assumption) (by omega) (by omega) (by omega) ?_
      refine ma_rcmp_eq 19 dX12_areAlike_14 rfl (rA k h0 (by omega)) (rC k h0 (by omega)) (fun c14 => ?_) (fun c14 => ?_)
      · -- 19
        refine ma_iincN dX12_areAlike_19 rfl (by decide) rfl ?_
        refine ma_goto 2 dX12_areAlike_22 rfl ?_
        exact ih (k + 1) (by omega) (by omega) (by omega) (fun j j0 j1 => by
          rcases Int.lt_or_eq_of_le (show j ≤ k by omega) with z | z
          · exact hk j j0 z
          · rw [z]; exact c14)
      · -- 17
        refine ma_iconst dX12_areAlike_17 ?_
        exact ma_zret dX12_areAlike_18 rfl (Or.inl rfl) (K0 (fun z => c14 (z k h0 (by omega))))
theorem c_X12_areAlike {h : ma_H} {a b nx d : Nat} {A C : Int → Int} {Q : Option ma_V → ma_H → Nat → Prop} (ha : h a = ci 33 A) (hb : h b = ci 33 C) (rA : ∀ j, 0 ≤ j → j < 33 → rg (A j)) (rC : ∀ j, 0 ≤ j → j < 33 → rg (C j)) (K1 : (∀ j, 0 ≤ j → j < 33 → A j = C j) → Q (some (vi 1)) h nx) (K0 : ¬ (∀ j, 0 ≤ j → j < 33 → A j = C j) → Q (some (vi 0)) h nx) : ma_Ct mX12_areAlike d 0 0 [vr a, vr b] h nx Q := by
  refine ma_Ct.of (by decide +kernel) (Nat.le_of_ble_eq_true rfl) ?_
  refine ma_iconst dX12_areAlike_0 ?_
  refine ma_istore_nN dX12_areAlike_1 (by decide) rfl ?_
  exact l_X12_areAlike ha hb rA rC K1 K0 34 0 (by omega) (by omega) (by omega) (fun j j0 j1 => by omega)
theorem iv_uni {p q : Int} (p0 : 0 ≤ p) (p1 : p < 24) (q0 : 0 ≤ q) (q1 : q < 24) (h : ∀ c, 0 ≤ c → c < 4 → im q (im p c) = c) : q = iv p := by
  have v := iv_in p0 p1
  refine pm_ext q0 q1 v.1 v.2 (fun c c0 c1 => ?_)
  have i := im_in v.1 v.2 c0 c1
  have := h _ i.1 i.2
  rw [(im_mi p0 p1 c0 c1).2] at this
  exact this
theorem l_X12_inv0 {h : ma_H} {nx d : Nat} {p q : Int} {Q : Option ma_V → ma_H → Nat → Prop} (KO0 : ma_J none mX12_inverse (d + 1) 0 0 46 [some (vi p), some (vi q), some (vi 0), some (vi 4)] [] h nx Q) :
    ∀ (m : Nat) (c : Int), 0 ≤ c → c ≤ 4 → 4 - c < m → ma_J none mX12_inverse (d + 1) 0 0 12 [some (vi p), some (vi q), some (vi 0), some (vi c)] [] h nx Q := by
  intro m
  induction m with
  | zero => intro c h0 h1 h2; omega
  | succ m ih =>
    intro c h0 h1 h2
    refine ma_iload_n dX12_inverse_12 rfl ?_
    refine ma_iconst dX12_inverse_13 ?_
    refine ma_rcmp_ge 46 dX12_inverse_14 rfl (by constructor <;> omega) (by constructor <;> omega) (fun c14 => ?_) (fun c14 => ?_)
    · -- 46
      have e4 : c = 4 := by omega
      subst e4
      exact KO0
    · -- 17
      refine ma_iload_n dX12_inverse_17 rfl ?_
      refine ma_rif_eq 38 dX12_inverse_18 rfl (by decide) (fun c18 => ?_) (fun c18 => absurd c18 (by decide))
      refine ma_iconst dX12_inverse_38 ?_
      refine ma_istore_nN dX12_inverse_39 (by decide) rfl ?_
      refine ma_iincN dX12_inverse_40 rfl (by decide) rfl ?_
      refine ma_goto 12 dX12_inverse_43 rfl ?_
      exact ih (c + 1) (by omega) (by omega) (by omega)
theorem l_X12_inv1 {h : ma_H} {nx d : Nat} {p q : Int} {Q : Option ma_V → ma_H → Nat → Prop} (hp : 0 ≤ p ∧ p < 24) (hq : 0 ≤ q ∧ q < 24) (KO0 : q ≠ iv p → ma_J none mX12_inverse (d + 1) 0 0 46 [some (vi p), some (vi q), some (vi 0), some (vi 4)] [] h nx Q) (KO1 : q = iv p → ma_J none mX12_inverse (d + 1) 0 0 46 [some (vi p), some (vi q), some (vi 1), some (vi 4)] [] h nx Q) :
    ∀ (m : Nat) (c : Int), 0 ≤ c → c ≤ 4 → 4 - c < m → (∀ c', 0 ≤ c' → c' < c → im q (im p c') = c') → ma_J none mX12_inverse (d + 1) 0 0 12 [some (vi p), some (vi q), some (vi 1), some (vi c)] [] h nx Q := by
  intro m
  induction m with
  | zero => intro c h0 h1 h2; omega
  | succ m ih =>
    intro c h0 h1 h2 hc
    refine ma_iload_n dX12_inverse_12 rfl ?_
    refine ma_iconst dX12_inverse_13 ?_
    refine ma_rcmp_ge 46 dX12_inverse_14 rfl (by constructor <;> omega) (by constructor <;> omega) (fun c14 => ?_) (fun c14 => ?_)
    · -- 46
      have e4 : c = 4 := by omega
      subst e4
      exact KO1 (iv_uni hp.1 hp.2 hq.1 hq.2 (fun c' a b => hc c' a b))
    · -- 17
      refine ma_iload_n dX12_inverse_17 rfl ?_
      refine ma_rif_eq 38 dX12_inverse_18 rfl (by decide) (fun c18 => absurd c18 (by decide)) (fun c18 => ?_)
      refine ma_iload_n dX12_inverse_21 rfl ?_
      refine ma_iload_n dX12_inverse_22 rfl ?_
      refine ma_iload_n dX12_inverse_23 rfl ?_
      refine ma_cS [_, _] dX12_inverse_24 wX12_image lX12_124 tX12_image (Nat.le_of_ble_eq_true rfl) ?_
      refine c_X12_image hp (by constructor <;> omega) ?_
      have i1 := im_in hp.1 hp.2 h0 (show c < 4 by omega)
      refine ma_cS [_, _] dX12_inverse_27 wX12_image lX12_124 tX12_image (Nat.le_of_ble_eq_true rfl) ?_
      refine c_X12_image hq i1 ?_
      have i2 := im_in hq.1 hq.2 i1.1 i1.2
      refine ma_iload_n dX12_inverse_30 rfl ?_
      refine ma_rcmp_ne 38 dX12_inverse_31 rfl (by constructor <;> omega) (by constructor <;> omega) (fun c31 => ?_) (fun c31 => ?_)
      · -- 38
        refine ma_iconst dX12_inverse_38 ?_
        refine ma_istore_nN dX12_inverse_39 (by decide) rfl ?_
        refine ma_iincN dX12_inverse_40 rfl (by decide) rfl ?_
        refine ma_goto 12 dX12_inverse_43 rfl ?_
        exact l_X12_inv0 (KO0 (fun e => c31 (by rw [e]; exact (im_mi hp.1 hp.2 h0 (by omega)).1))) 5 (c + 1) (by omega) (by omega) (by omega)
      · -- 34
        refine ma_iconst dX12_inverse_34 ?_
        refine ma_goto 39 dX12_inverse_35 rfl ?_
        refine ma_istore_nN dX12_inverse_39 (by decide) rfl ?_
        refine ma_iincN dX12_inverse_40 rfl (by decide) rfl ?_
        refine ma_goto 12 dX12_inverse_43 rfl ?_
        exact ih (c + 1) (by omega) (by omega) (by omega) (fun j j0 j1 => by
          rcases Int.lt_or_eq_of_le (show j ≤ c by omega) with z | z
          · exact hc j j0 z
          · rw [z]; exact c31)
theorem l_X12_inv2 {h : ma_H} {nx d : Nat} {p : Int} {Q : Option ma_V → ma_H → Nat → Prop} (hp : 0 ≤ p ∧ p < 24) (K : Q (some (vi (iv p))) h nx) :
    ∀ (m : Nat) (q : Int) (x2 x3 : Option ma_V), 0 ≤ q → q ≤ 24 → 24 - q < m → q ≤ iv p → ma_J none mX12_inverse (d + 1) 0 0 2 [some (vi p), some (vi q), x2, x3] [] h nx Q := by
  have v := iv_in hp.1 hp.2
  intro m
  induction m with
  | zero => intro q x2 x3 h0 h1 h2; omega
  | succ m ih =>
    intro q x2 x3 h0 h1 h2 hl
    have KO1 : q = iv p → ma_J none mX12_inverse (d + 1) 0 0 46 [some (vi p), some (vi q), some (vi 1), some (vi 4)] [] h nx Q := fun hqe => by
      refine ma_iload_n dX12_inverse_46 rfl ?_
      refine ma_rif_eq 52 dX12_inverse_47 rfl (by decide) (fun c47 => absurd c47 (by decide)) (fun c47 => ?_)
      refine ma_iload_n dX12_inverse_50 rfl ?_
      rw [hqe]
      exact ma_iret dX12_inverse_51 rfl K
    have KO0 : q ≠ iv p → ma_J none mX12_inverse (d + 1) 0 0 46 [some (vi p), some (vi q), some (vi 0), some (vi 4)] [] h nx Q := fun hqe => by
      refine ma_iload_n dX12_inverse_46 rfl ?_
      refine ma_rif_eq 52 dX12_inverse_47 rfl (by decide) (fun c47 => ?_) (fun c47 => absurd c47 (by decide))
      refine ma_iincN dX12_inverse_52 rfl (by decide) rfl ?_
      refine ma_goto 2 dX12_inverse_55 rfl ?_
      exact ih (q + 1) _ _ (by omega) (by omega) (by omega) (by omega)
    refine ma_iload_n dX12_inverse_2 rfl ?_
    refine ma_bipush dX12_inverse_3 ?_
    refine ma_rcmp_ge 58 dX12_inverse_5 rfl (by constructor <;> omega) (by constructor <;> omega) (fun c5 => ?_) (fun c5 => ?_)
    · -- 58
      refine ma_iconst dX12_inverse_58 ?_
      exfalso; omega
    · -- 8
      refine ma_iconst dX12_inverse_8 ?_
      refine ma_istore_nN dX12_inverse_9 (by decide) rfl ?_
      refine ma_iconst dX12_inverse_10 ?_
      refine ma_istore_nN dX12_inverse_11 (by decide) rfl ?_
      exact l_X12_inv1 hp ⟨h0, by omega⟩ KO0 KO1 5 0 (by omega) (by omega) (by omega) (fun c' a b => by omega)
theorem c_X12_inverse {h : ma_H} {nx d : Nat} {p : Int} {Q : Option ma_V → ma_H → Nat → Prop} (hp : 0 ≤ p ∧ p < 24) (K : Q (some (vi (iv p))) h nx) : ma_Ct mX12_inverse (d + 1) 0 0 [vi p] h nx Q := by
  have v := iv_in hp.1 hp.2
  refine ma_Ct.of (by decide +kernel) (Nat.le_of_ble_eq_true rfl) ?_
  refine ma_iconst dX12_inverse_0 ?_
  refine ma_istore_nN dX12_inverse_1 (by decide) rfl ?_
  exact l_X12_inv2 hp K 25 0 _ _ (by omega) (by omega) (by omega) v.1
