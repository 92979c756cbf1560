/-- one place of a numbering, as the rows have it -/
theorem nr_step {t f p i : Int} {G A B C : Int → Int} (hG : VG t G) (hC : CN t G) (hf : 0 ≤ f ∧ f < t) (hp : 0 ≤ p ∧ p < 24) (h0 : 0 ≤ i) (h1 : i < 4 * t) (hR : NR t (bst G f p i.toNat) A B C) :
    ∃ (kn a nv bk mm cd sp nu nm : Int), kn = (bst G f p i.toNat).1 ∧ (1 ≤ kn ∧ kn ≤ t) ∧ B (i / 4) = a ∧ (0 ≤ a ∧ a < t) ∧ C a = nv ∧ (0 ≤ nv ∧ nv < 24) ∧ ma_tf 1 nv = bk ∧ (0 ≤ bk ∧ bk < 24) ∧ ma_tf 0 (4 * bk + i % 4) = mm ∧ (0 ≤ mm ∧ mm < 4) ∧ G (4 * a + mm) = cd ∧
      ((cd = -1 ∧ brow G f p i = -1 ∧ NR t (bst G f p (i + 1).toNat) A B C ∧ (bst G f p (i + 1).toNat).1 = kn) ∨
       (0 ≤ cd ∧ cd / 32 < t ∧ cd % 32 < 24 ∧ ma_tf 4 (24 * (cd % 32) + bk) = sp ∧ (0 ≤ sp ∧ sp < 24) ∧ A (cd / 32) = nu ∧
        ((nu = -1 ∧ kn < t ∧ (0 ≤ ma_tf 1 sp ∧ ma_tf 1 sp < 24) ∧ (0 ≤ ma_tf 4 (24 * ma_tf 1 sp + sp) ∧ ma_tf 4 (24 * ma_tf 1 sp + sp) < 24) ∧ brow G f p i = 32 * kn + ma_tf 4 (24 * ma_tf 1 sp + sp) ∧ NR t (bst G f p (i + 1).toNat) (uf A (cd / 32) kn) (uf B kn (cd / 32)) (uf C (cd / 32) (ma_tf 1 sp)) ∧ (bst G f p (i + 1).toNat).1 = kn + 1) ∨
         (0 ≤ nu ∧ nu < 8 ∧ C (cd / 32) = nm ∧ (0 ≤ nm ∧ nm < 24) ∧ (0 ≤ ma_tf 4 (24 * nm + sp) ∧ ma_tf 4 (24 * nm + sp) < 24) ∧ brow G f p i = 32 * nu + ma_tf 4 (24 * nm + sp) ∧ NR t (bst G f p (i + 1).toNat) A B C ∧ (bst G f p (i + 1).toNat).1 = kn)))) := by
  have ht := hG.1
  have I := bf_all hG hC hf hp i.toNat (by omega)
  rw [Int.toNat_of_nonneg h0] at I
  have hi := bf_conn hG hC I h0 h1
  obtain ⟨⟨a0, a1⟩, ⟨v0, v1⟩, ⟨m0, m1⟩, hq⟩ := bf_ok hG I h0 hi
  obtain ⟨hst, hst2⟩ := bf_step hG I h0 hi
  have er : brow G f p i = if bq G (bst G f p i.toNat) i < 0 then -1 else 32 * (bst G f p (i + 1).toNat).2.1 (bq G (bst G f p i.toNat) i / 32) + af ((bst G f p (i + 1).toNat).2.2.2 (bq G (bst G f p i.toNat) i / 32)) (bp G (bst G f p i.toNat) i) := rfl
  rw [bst_s G f p h0] at er ⊢
  generalize bst G f p i.toNat = S at *
  obtain ⟨I1, I2, I3, I4, I5⟩ := id I
  obtain ⟨R1, R2, R3⟩ := hR
  have hna : 0 ≤ S.2.1 (S.2.2.1 (i / 4)) := by rw [(I2 (i / 4) (by omega) hi).2.2]; omega
  have hn := I4 _ a0 a1 hna
  refine ⟨S.1, S.2.2.1 (i / 4), S.2.2.2 (S.2.2.1 (i / 4)), iv (S.2.2.2 (S.2.2.1 (i / 4))), im (iv (S.2.2.2 (S.2.2.1 (i / 4)))) (i % 4), bq G S i, bp G S i, S.2.1 (bq G S i / 32), S.2.2.2 (bq G S i / 32), rfl, I1, R2 _ (by omega) hi, ⟨a0, a1⟩, R3 _ a0 a1 hna, hn, rfl, ⟨v0, v1⟩, rfl, ⟨m0, m1⟩, rfl, ?_⟩
  have eb : bstep G S i = if bq G S i < 0 then S else if S.2.1 (bq G S i / 32) < 0 then (S.1 + 1, uf S.2.1 (bq G S i / 32) S.1, uf S.2.2.1 S.1 (bq G S i / 32), uf S.2.2.2 (bq G S i / 32) (iv (bp G S i))) else S := rfl
  rcases hq with e | ⟨q0, q1, q2, q3, q4⟩
  · rw [if_pos (by omega)] at er eb
    rw [eb]
    exact Or.inl ⟨e, er, ⟨R1, R2, R3⟩, rfl⟩
  · refine Or.inr ⟨q0, q2, q4, rfl, ?_, R1 _ q1 (by omega), ?_⟩
    · exact af_in q3 q4 v0 v1
    · have hsp : 0 ≤ bp G S i ∧ bp G S i < 24 := af_in q3 q4 v0 v1
      have hsi := iv_in hsp.1 hsp.2
      have I3' := I3 _ q1 q2
      rw [if_neg (by omega)] at er eb
      by_cases hn2 : S.2.1 (bq G S i / 32) < 0
      · rw [if_pos hn2] at eb
        have hr := bf_room I q1 q2 hn2
        rw [eb] at er ⊢
        have er2 : brow G f p i = 32 * S.1 + ma_tf 4 (24 * ma_tf 1 (bp G S i) + bp G S i) := by
          rw [er]
          show 32 * uf S.2.1 (bq G S i / 32) S.1 (bq G S i / 32) + af (uf S.2.2.2 (bq G S i / 32) (iv (bp G S i)) (bq G S i / 32)) (bp G S i) = _
          rw [uf_s, uf_s]
          rfl
        refine Or.inl ⟨by omega, hr, hsi, af_in hsi.1 hsi.2 hsp.1 hsp.2, er2, ⟨fun s s0 s1 => ?_, fun j j0 j1 => ?_, fun s s0 s1 s2 => ?_⟩, rfl⟩
        · show uf A (bq G S i / 32) S.1 s = uf S.2.1 (bq G S i / 32) S.1 s
          unfold uf
          split
          · rfl
          · exact R1 s s0 s1
        · have j1 : j < S.1 + 1 := j1
          show uf B S.1 (bq G S i / 32) j = uf S.2.2.1 S.1 (bq G S i / 32) j
          unfold uf
          split
          · rfl
          · exact R2 j j0 (by omega)
        · have s2 : 0 ≤ uf S.2.1 (bq G S i / 32) S.1 s := s2
          show uf C (bq G S i / 32) (ma_tf 1 (bp G S i)) s = uf S.2.2.2 (bq G S i / 32) (iv (bp G S i)) s
          by_cases z : s = bq G S i / 32
          · rw [z, uf_s, uf_s]
            rfl
          · rw [uf_n z] at s2
            rw [uf_n z, uf_n z]
            exact R3 s s0 s1 s2
      · rw [if_neg hn2] at eb
        rw [eb] at er ⊢
        have hm := I4 _ q1 q2 (by omega)
        exact Or.inr ⟨by omega, by omega, R3 _ q1 q2 (by omega), hm, af_in hm.1 hm.2 hsp.1 hsp.2, er, ⟨R1, R2, R3⟩, rfl⟩
set_option maxHeartbeats 4000000 in
theorem l_X2_compare {h : ma_H} {b g nx d : Nat} {t f p : Int} {G L0 : Int → Int} {Q : Option ma_V → ma_H → Nat → Prop} (hN : ∀ L A B C, nh h L A B C 39 = co 2 [vr 40, vr 41, vr 42, vr 43]) (hB : ∀ L A B C, nh h L A B C b = co 8 [vi t, vr g]) (hE : ∀ L A B C, nh h L A B C g = ci 32 G) (hG : VG t G) (hC : CN t G) (hf : 0 ≤ f ∧ f < t) (hp : 0 ≤ p ∧ p < 24) (hL0 : ∀ j, 0 ≤ j → j < 32 → rg (L0 j))
    (K1 : ∀ L A B C, (∀ j, 0 ≤ j → j < 32 → L j = L0 j) → (∃ k, 0 ≤ k ∧ k < 4 * t ∧ (∀ j, 0 ≤ j → j < k → brow G f p j = L0 j) ∧ L0 k < brow G f p k) → Q (some (vi 1)) (nh h L A B C) nx)
    (K0 : ∀ L A B C, (∀ j, 0 ≤ j → j < 32 → L j = L0 j) → (∀ j, 0 ≤ j → j < 4 * t → brow G f p j = L0 j) → Q (some (vi 0)) (nh h L A B C) nx)
    (Km : ∀ L A B C, (∀ j, 0 ≤ j → j < 4 * t → L j = brow G f p j) → (∀ j, 4 * t ≤ j → j < 32 → L j = L0 j) → (∃ k, 0 ≤ k ∧ k < 4 * t ∧ (∀ j, 0 ≤ j → j < k → brow G f p j = L0 j) ∧ brow G f p k < L0 k) → Q (some (vi (-1))) (nh h L A B C) nx) (n : Nat) : ∀ (i il kn : Int) (L A B C : Int → Int) (x7 x8 x9 x10 x11 x12 : Option ma_V), 0 ≤ i → i ≤ 4 * t → 4 * t - i < n → NL G f p L0 L i il → NR t (bst G f p i.toNat) A B C → kn = (bst G f p i.toNat).1 → ma_J none mX2_compare d 0 0 38 [some (vr 39), some (vr b), some (vi f), some (vi p), some (vi kn), some (vi il), some (vi i), x7, x8, x9, x10, x11, x12] [] (nh h L A B C) nx Q := by
  have ht := hG.1
  induction n with
  | zero => intro i il kn L A B C x7 x8 x9 x10 x11 x12 h0 h1 h2; omega
  | succ n ih =>
    intro i il kn L A B C x7 x8 x9 x10 x11 x12 h0 h1 h2 hl hR ek
    refine ma_iload dX2_compare_38 rfl ?_
    refine ma_iconst dX2_compare_40 ?_
    refine ma_aload_n dX2_compare_41 rfl ?_
    refine ma_getf dX2_compare_42 fX2_31 (by first | exact nh_40 | exact nh_41 | exact nh_42 | exact nh_43 | exact hN _ _ _ _ | exact hB _ _ _ _ | exact hE _ _ _ _) (by rfl) ?_
    refine ma_imul dX2_compare_45 ?_
    refine ma_rcmp_ge 260 dX2_compare_46 rfl (by constructor <;> omega) (by constructor <;> omega) (fun c46 => ?_) (fun c46 => ?_)
    · -- 260
      refine ma_iload dX2_compare_260 rfl ?_
      refine ma_rif_eq 269 dX2_compare_262 rfl (by rcases hl with z | z <;> omega) (fun c262 => ?_) (fun c262 => ?_)
      · -- 269
        refine ma_iconst dX2_compare_269 ?_
        refine ma_iret dX2_compare_270 rfl ?_
        have hI : i = 4 * t := by omega
        rcases hl with ⟨q, e1, e2⟩ | ⟨q, e1, e2, e3⟩
        · first | exact K0 L A B C e1 (fun j j0 j1 => e2 j j0 (by omega)) | omega
        · first | exact Km L A B C (fun j j0 j1 => e2 j j0 (by omega)) (fun j j0 j1 => e3 j (by omega) j1) (by obtain ⟨k, k0, k1, k2, k3⟩ := e1; exact ⟨k, k0, by omega, k2, k3⟩) | omega
      · -- 265
        refine ma_iconst dX2_compare_265 ?_
        refine ma_goto 270 dX2_compare_266 rfl ?_
        refine ma_iret dX2_compare_270 rfl ?_
        have hI : i = 4 * t := by omega
        rcases hl with ⟨q, e1, e2⟩ | ⟨q, e1, e2, e3⟩
        · first | exact K0 L A B C e1 (fun j j0 j1 => e2 j j0 (by omega)) | omega
        · first | exact Km L A B C (fun j j0 j1 => e2 j j0 (by omega)) (fun j j0 j1 => e3 j (by omega) j1) (by obtain ⟨k, k0, k1, k2, k3⟩ := e1; exact ⟨k, k0, by omega, k2, k3⟩) | omega
    · -- 49
      obtain ⟨kn', a, nv, bk, mm, cd, sp, nu, nm, ek', hkn, e57, ha, e69, hnv, e70, hbk, e93, hmm, e95, hcs⟩ := nr_step hG hC hf hp h0 c46 hR
      have ekk : kn = kn' := by omega
      subst ekk
      refine ma_aload_n dX2_compare_49 rfl ?_
      refine ma_getf dX2_compare_50 fX2_18 (by first | exact nh_40 | exact nh_41 | exact nh_42 | exact nh_43 | exact hN _ _ _ _ | exact hB _ _ _ _ | exact hE _ _ _ _) (by rfl) ?_
      refine ma_iload dX2_compare_53 rfl ?_
      refine ma_iconst dX2_compare_55 ?_
      refine ma_kshr 4 dX2_compare_56 (by decide) (by constructor <;> omega) ?_
      refine ma_iald dX2_compare_57 (by first | exact nh_40 | exact nh_41 | exact nh_42 | exact nh_43 | exact hN _ _ _ _ | exact hB _ _ _ _ | exact hE _ _ _ _) (by omega) (by omega) (by omega) ?_
      rw [e57]
      refine ma_istoreN dX2_compare_58 (by decide) rfl ?_
      refine ma_getsN (j := 1) dX2_compare_60 (by decide) gX2_50 ?_
      refine ma_aload_n dX2_compare_63 rfl ?_
      refine ma_getf dX2_compare_64 fX2_21 (by first | exact nh_40 | exact nh_41 | exact nh_42 | exact nh_43 | exact hN _ _ _ _ | exact hB _ _ _ _ | exact hE _ _ _ _) (by rfl) ?_
      refine ma_iload dX2_compare_67 rfl ?_
      refine ma_iald dX2_compare_69 (by first | exact nh_40 | exact nh_41 | exact nh_42 | exact nh_43 | exact hN _ _ _ _ | exact hB _ _ _ _ | exact hE _ _ _ _) (by omega) (by omega) (by omega) ?_
      rw [e69]
      refine ma_tald (j := 1) (n := 24) dX2_compare_70 (by decide) tl_1 (by omega) (by omega) (by decide) ?_
      rw [e70]
      refine ma_istoreN dX2_compare_71 (by decide) rfl ?_
      refine ma_aload_n dX2_compare_73 rfl ?_
      refine ma_getf dX2_compare_74 fX2_41 (by first | exact nh_40 | exact nh_41 | exact nh_42 | exact nh_43 | exact hN _ _ _ _ | exact hB _ _ _ _ | exact hE _ _ _ _) (by rfl) ?_
      refine ma_iconst dX2_compare_77 ?_
      refine ma_iload dX2_compare_78 rfl ?_
      refine ma_imul dX2_compare_80 ?_
      refine ma_getsN (j := 0) dX2_compare_81 (by decide) gX2_53 ?_
      refine ma_iconst dX2_compare_84 ?_
      refine ma_iload dX2_compare_85 rfl ?_
      refine ma_imul dX2_compare_87 ?_
      refine ma_iload dX2_compare_88 rfl ?_
      refine ma_iconst dX2_compare_90 ?_
      refine ma_kand 2 4 dX2_compare_91 (by decide) (by decide +kernel) (by decide) ?_
      refine ma_iadd dX2_compare_92 ?_
      refine ma_tald (j := 0) (n := 96) dX2_compare_93 (by decide) tl_0 (by omega) (by omega) (by decide) ?_
      rw [e93]
      refine ma_iadd dX2_compare_94 ?_
      refine ma_iald dX2_compare_95 (by first | exact nh_40 | exact nh_41 | exact nh_42 | exact nh_43 | exact hN _ _ _ _ | exact hB _ _ _ _ | exact hE _ _ _ _) (by omega) (by omega) (by omega) ?_
      rw [e95]
      refine ma_istoreN dX2_compare_96 (by decide) rfl ?_
      refine ma_iconst dX2_compare_98 ?_
      refine ma_istoreN dX2_compare_99 (by decide) rfl ?_
      refine ma_iload dX2_compare_101 rfl ?_
      refine ma_rif_lt 202 dX2_compare_103 rfl (by rcases hcs with z | z <;> omega) (fun c103 => ?_) (fun c103 => ?_)
      · -- 202
        obtain ⟨g1, eb, hR1, ek1⟩ : cd = -1 ∧ brow G f p i = -1 ∧ NR t (bst G f p (i + 1).toNat) A B C ∧ (bst G f p (i + 1).toNat).1 = kn := (by rcases hcs with z | z <;> first | exact z | exact absurd z.1 (by omega))
        have z := fun x7 x8 x9 x11 x12 => l_X2_compare_202 hN hB hE hG hC hf hp hL0 K1 K0 Km ih i il kn L A B C x7 x8 x9 x11 x12 h0 c46 h2 hl hR1 ek1.symm
        rw [eb] at z
        exact z _ _ _ _ _
      · -- 106
        obtain ⟨q0, q2, q4, f126, hsp, f135, hcs⟩ : 0 ≤ cd ∧ cd / 32 < t ∧ cd % 32 < 24 ∧ ma_tf 4 (24 * (cd % 32) + bk) = sp ∧ (0 ≤ sp ∧ sp < 24) ∧ A (cd / 32) = nu ∧ _ := by
          rcases hcs with z | z
          · omega
          · exact z
        refine ma_iload dX2_compare_106 rfl ?_
        refine ma_iconst dX2_compare_108 ?_
        refine ma_kshr 32 dX2_compare_109 (by decide) (by constructor <;> omega) ?_
        refine ma_istoreN dX2_compare_110 (by decide) rfl ?_
        refine ma_getsN (j := 4) dX2_compare_112 (by decide) gX2_56 ?_
        refine ma_bipush dX2_compare_115 ?_
        refine ma_iload dX2_compare_117 rfl ?_
        refine ma_bipush dX2_compare_119 ?_
        refine ma_kand 5 32 dX2_compare_121 (by decide) (by decide +kernel) (by decide) ?_
        refine ma_imul dX2_compare_122 ?_
        refine ma_iload dX2_compare_123 rfl ?_
        refine ma_iadd dX2_compare_125 ?_
        refine ma_tald (j := 4) (n := 576) dX2_compare_126 (by decide) tl_4 (by omega) (by omega) (by decide) ?_
        rw [f126]
        refine ma_istoreN dX2_compare_127 (by decide) rfl ?_
        refine ma_aload_n dX2_compare_129 rfl ?_
        refine ma_getf dX2_compare_130 fX2_15 (by first | exact nh_40 | exact nh_41 | exact nh_42 | exact nh_43 | exact hN _ _ _ _ | exact hB _ _ _ _ | exact hE _ _ _ _) (by rfl) ?_
        refine ma_iload dX2_compare_133 rfl ?_
        refine ma_iald dX2_compare_135 (by first | exact nh_40 | exact nh_41 | exact nh_42 | exact nh_43 | exact hN _ _ _ _ | exact hB _ _ _ _ | exact hE _ _ _ _) (by omega) (by omega) (by omega) ?_
        rw [f135]
        refine ma_rif_ge 173 dX2_compare_136 rfl (by rcases hcs with z | z <;> omega) (fun c136 => ?_) (fun c136 => ?_)
        · -- 173
          obtain ⟨g1, g1', f193, g2, g3, eb, hR3, ek3⟩ : 0 ≤ nu ∧ nu < 8 ∧ C (cd / 32) = nm ∧ (0 ≤ nm ∧ nm < 24) ∧ (0 ≤ ma_tf 4 (24 * nm + sp) ∧ ma_tf 4 (24 * nm + sp) < 24) ∧ brow G f p i = 32 * nu + ma_tf 4 (24 * nm + sp) ∧ NR t (bst G f p (i + 1).toNat) A B C ∧ (bst G f p (i + 1).toNat).1 = kn := by
            rcases hcs with z | z
            · omega
            · exact z
          refine ma_aload_n dX2_compare_173 rfl ?_
          refine ma_getf dX2_compare_174 fX2_15 (by first | exact nh_40 | exact nh_41 | exact nh_42 | exact nh_43 | exact hN _ _ _ _ | exact hB _ _ _ _ | exact hE _ _ _ _) (by rfl) ?_
          refine ma_iload dX2_compare_177 rfl ?_
          refine ma_iald dX2_compare_179 (by first | exact nh_40 | exact nh_41 | exact nh_42 | exact nh_43 | exact hN _ _ _ _ | exact hB _ _ _ _ | exact hE _ _ _ _) (by omega) (by omega) (by omega) ?_
          first | rw [uf_s] | rw [f135]
          refine ma_iconst dX2_compare_180 ?_
          refine ma_kshl 32 dX2_compare_181 (by decide) ?_
          refine ma_getsN (j := 4) dX2_compare_182 (by decide) gX2_56 ?_
          refine ma_bipush dX2_compare_185 ?_
          refine ma_aload_n dX2_compare_187 rfl ?_
          refine ma_getf dX2_compare_188 fX2_21 (by first | exact nh_40 | exact nh_41 | exact nh_42 | exact nh_43 | exact hN _ _ _ _ | exact hB _ _ _ _ | exact hE _ _ _ _) (by rfl) ?_
          refine ma_iload dX2_compare_191 rfl ?_
          refine ma_iald dX2_compare_193 (by first | exact nh_40 | exact nh_41 | exact nh_42 | exact nh_43 | exact hN _ _ _ _ | exact hB _ _ _ _ | exact hE _ _ _ _) (by omega) (by omega) (by omega) ?_
          first | rw [uf_s] | rw [f193]
          refine ma_imul dX2_compare_194 ?_
          refine ma_iload dX2_compare_195 rfl ?_
          refine ma_iadd dX2_compare_197 ?_
          refine ma_tald (j := 4) (n := 576) dX2_compare_198 (by decide) tl_4 (by omega) (by omega) (by decide) ?_
          refine ma_kor5 dX2_compare_199 (by constructor <;> omega) (by constructor <;> omega) ?_
          refine ma_istoreN dX2_compare_200 (by decide) rfl ?_
          have z := fun x7 x8 x9 x11 x12 => l_X2_compare_202 hN hB hE hG hC hf hp hL0 K1 K0 Km ih i il _ L _ _ _ x7 x8 x9 x11 x12 h0 c46 h2 hl hR3 ek3.symm
          rw [eb] at z
          exact z _ _ _ _ _
        · -- 139
          obtain ⟨g1, hkt, g2, g3, eb, hR2, ek2⟩ : nu = -1 ∧ kn < t ∧ (0 ≤ ma_tf 1 sp ∧ ma_tf 1 sp < 24) ∧ (0 ≤ ma_tf 4 (24 * ma_tf 1 sp + sp) ∧ ma_tf 4 (24 * ma_tf 1 sp + sp) < 24) ∧ brow G f p i = 32 * kn + ma_tf 4 (24 * ma_tf 1 sp + sp) ∧ NR t (bst G f p (i + 1).toNat) (uf A (cd / 32) kn) (uf B kn (cd / 32)) (uf C (cd / 32) (ma_tf 1 sp)) ∧ (bst G f p (i + 1).toNat).1 = kn + 1 := by
            rcases hcs with z | z
            · exact z
            · omega
          refine ma_aload_n dX2_compare_139 rfl ?_
          refine ma_getf dX2_compare_140 fX2_15 (by first | exact nh_40 | exact nh_41 | exact nh_42 | exact nh_43 | exact hN _ _ _ _ | exact hB _ _ _ _ | exact hE _ _ _ _) (by rfl) ?_
          refine ma_iload dX2_compare_143 rfl ?_
          refine ma_iload dX2_compare_145 rfl ?_
          refine ma_iast dX2_compare_147 (by first | exact nh_40 | exact nh_41 | exact nh_42 | exact nh_43 | exact hN _ _ _ _ | exact hB _ _ _ _ | exact hE _ _ _ _) (by omega) (by omega) (by omega) ?_
          rw [nh_p41]
          refine ma_aload_n dX2_compare_148 rfl ?_
          refine ma_getf dX2_compare_149 fX2_18 (by first | exact nh_40 | exact nh_41 | exact nh_42 | exact nh_43 | exact hN _ _ _ _ | exact hB _ _ _ _ | exact hE _ _ _ _) (by rfl) ?_
          refine ma_iload dX2_compare_152 rfl ?_
          refine ma_iload dX2_compare_154 rfl ?_
          refine ma_iast dX2_compare_156 (by first | exact nh_40 | exact nh_41 | exact nh_42 | exact nh_43 | exact hN _ _ _ _ | exact hB _ _ _ _ | exact hE _ _ _ _) (by omega) (by omega) (by omega) ?_
          rw [nh_p42]
          refine ma_aload_n dX2_compare_157 rfl ?_
          refine ma_getf dX2_compare_158 fX2_21 (by first | exact nh_40 | exact nh_41 | exact nh_42 | exact nh_43 | exact hN _ _ _ _ | exact hB _ _ _ _ | exact hE _ _ _ _) (by rfl) ?_
          refine ma_iload dX2_compare_161 rfl ?_
          refine ma_getsN (j := 1) dX2_compare_163 (by decide) gX2_50 ?_
          refine ma_iload dX2_compare_166 rfl ?_
          refine ma_tald (j := 1) (n := 24) dX2_compare_168 (by decide) tl_1 (by omega) (by omega) (by decide) ?_
          refine ma_iast dX2_compare_169 (by first | exact nh_40 | exact nh_41 | exact nh_42 | exact nh_43 | exact hN _ _ _ _ | exact hB _ _ _ _ | exact hE _ _ _ _) (by omega) (by omega) (by omega) ?_
          rw [nh_p43]
          refine ma_iincN dX2_compare_170 rfl (by decide) rfl ?_
          refine ma_aload_n dX2_compare_173 rfl ?_
          refine ma_getf dX2_compare_174 fX2_15 (by first | exact nh_40 | exact nh_41 | exact nh_42 | exact nh_43 | exact hN _ _ _ _ | exact hB _ _ _ _ | exact hE _ _ _ _) (by rfl) ?_
          refine ma_iload dX2_compare_177 rfl ?_
          refine ma_iald dX2_compare_179 (by first | exact nh_40 | exact nh_41 | exact nh_42 | exact nh_43 | exact hN _ _ _ _ | exact hB _ _ _ _ | exact hE _ _ _ _) (by omega) (by omega) (by omega) ?_
          first | rw [uf_s] | rw [f135]
          refine ma_iconst dX2_compare_180 ?_
          refine ma_kshl 32 dX2_compare_181 (by decide) ?_
          refine ma_getsN (j := 4) dX2_compare_182 (by decide) gX2_56 ?_
          refine ma_bipush dX2_compare_185 ?_
          refine ma_aload_n dX2_compare_187 rfl ?_
          refine ma_getf dX2_compare_188 fX2_21 (by first | exact nh_40 | exact nh_41 | exact nh_42 | exact nh_43 | exact hN _ _ _ _ | exact hB _ _ _ _ | exact hE _ _ _ _) (by rfl) ?_
          refine ma_iload dX2_compare_191 rfl ?_
          refine ma_iald dX2_compare_193 (by first | exact nh_40 | exact nh_41 | exact nh_42 | exact nh_43 | exact hN _ _ _ _ | exact hB _ _ _ _ | exact hE _ _ _ _) (by omega) (by omega) (by omega) ?_
          first | rw [uf_s] | rw [f193]
          refine ma_imul dX2_compare_194 ?_
          refine ma_iload dX2_compare_195 rfl ?_
          refine ma_iadd dX2_compare_197 ?_
          refine ma_tald (j := 4) (n := 576) dX2_compare_198 (by decide) tl_4 (by omega) (by omega) (by decide) ?_
          refine ma_kor5 dX2_compare_199 (by constructor <;> omega) (by constructor <;> omega) ?_
          refine ma_istoreN dX2_compare_200 (by decide) rfl ?_
          have z := fun x7 x8 x9 x11 x12 => l_X2_compare_202 hN hB hE hG hC hf hp hL0 K1 K0 Km ih i il _ L _ _ _ x7 x8 x9 x11 x12 h0 c46 h2 hl hR2 ek2.symm
          rw [eb] at z
          exact z _ _ _ _ _
