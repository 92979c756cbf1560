/-- the world with the four rows of the numbering -/
def nh (h : ma_H) (L A B C : Int → Int) : ma_H := ma_up (ma_up (ma_up (ma_up h 40 (ci 32 L)) 41 (ci 8 A)) 42 (ci 8 B)) 43 (ci 8 C)
theorem nh_40 {h : ma_H} {L A B C : Int → Int} : nh h L A B C 40 = ci 32 L := rfl
theorem nh_41 {h : ma_H} {L A B C : Int → Int} : nh h L A B C 41 = ci 8 A := rfl
theorem nh_42 {h : ma_H} {L A B C : Int → Int} : nh h L A B C 42 = ci 8 B := rfl
theorem nh_43 {h : ma_H} {L A B C : Int → Int} : nh h L A B C 43 = ci 8 C := rfl
theorem nh_n {h : ma_H} {L A B C : Int → Int} {k : Nat} (hk : k < 40 ∨ 43 < k) : nh h L A B C k = h k := by
  unfold nh
  rw [ma_up_n (by omega), ma_up_n (by omega), ma_up_n (by omega), ma_up_n (by omega)]
theorem nh_p40 {h : ma_H} {L A B C X : Int → Int} : ma_up (nh h L A B C) 40 (ci 32 X) = nh h X A B C := by
  unfold nh
  rw [ma_up_cm _ _ _ (by decide : 43 ≠ 40), ma_up_cm _ _ _ (by decide : 42 ≠ 40), ma_up_cm _ _ _ (by decide : 41 ≠ 40), ma_up_up]
theorem nh_p41 {h : ma_H} {L A B C X : Int → Int} : ma_up (nh h L A B C) 41 (ci 8 X) = nh h L X B C := by
  unfold nh
  rw [ma_up_cm _ _ _ (by decide : 43 ≠ 41), ma_up_cm _ _ _ (by decide : 42 ≠ 41), ma_up_up]
theorem nh_p42 {h : ma_H} {L A B C X : Int → Int} : ma_up (nh h L A B C) 42 (ci 8 X) = nh h L A X C := by
  unfold nh
  rw [ma_up_cm _ _ _ (by decide : 43 ≠ 42), ma_up_up]
theorem nh_p43 {h : ma_H} {L A B C X : Int → Int} : ma_up (nh h L A B C) 43 (ci 8 X) = nh h L A B X := by
  unfold nh
  rw [ma_up_up]
theorem nh_of {h : ma_H} {L A B C : Int → Int} (h0 : h 40 = ci 32 L) (h1 : h 41 = ci 8 A) (h2 : h 42 = ci 8 B) (h3 : h 43 = ci 8 C) : h = nh h L A B C := by
  unfold nh
  rw [ma_up_id h0, ma_up_id h1, ma_up_id h2, ma_up_id h3]
/-- the rows hold what the numbering has come to -/
def NR (t : Int) (S : BS) (A B C : Int → Int) : Prop := (∀ s, 0 ≤ s → s < 8 → A s = S.2.1 s) ∧ (∀ j, 0 ≤ j → j < S.1 → B j = S.2.2.1 j) ∧ ∀ s, 0 ≤ s → s < t → 0 ≤ S.2.1 s → C s = S.2.2.2 s
/-- the least row so far: L0 as it was; il: a lesser number was met -/
def NL (G : Int → Int) (f p : Int) (L0 L : Int → Int) (i il : Int) : Prop :=
  (il = 0 ∧ (∀ j, 0 ≤ j → j < 32 → L j = L0 j) ∧ ∀ j, 0 ≤ j → j < i → brow G f p j = L0 j) ∨ (il = 1 ∧ (∃ k, 0 ≤ k ∧ k < i ∧ (∀ j, 0 ≤ j → j < k → brow G f p j = L0 j) ∧ brow G f p k < L0 k) ∧ (∀ j, 0 ≤ j → j < i → L j = brow G f p j) ∧ ∀ j, i ≤ j → j < 32 → L j = L0 j)
theorem bst_s (G : Int → Int) (f p : Int) {i : Int} (h : 0 ≤ i) : bst G f p (i + 1).toNat = bstep G (bst G f p i.toNat) i := by
  rw [show (i + 1).toNat = i.toNat + 1 by omega]
  show bstep G (bst G f p i.toNat) (i.toNat : Int) = _
  rw [Int.toNat_of_nonneg h]
theorem brow_in {t : Int} {G : Int → Int} {f p : Int} (hG : VG t G) (hC : CN t G) (hf : 0 ≤ f ∧ f < t) (hp : 0 ≤ p ∧ p < 24) {i : Int} (i0 : 0 ≤ i) (i1 : i < 4 * t) : -1 ≤ brow G f p i ∧ brow G f p i < 256 := by
  have I := bf_all hG hC hf hp i.toNat (by omega)
  rw [Int.toNat_of_nonneg i0] at I
  have hi := bf_conn hG hC I i0 i1
  obtain ⟨-, hq⟩ := bf_step hG I i0 hi
  obtain ⟨⟨a0, a1⟩, ⟨v0, v1⟩, ⟨m0, m1⟩, hc⟩ := bf_ok hG I i0 hi
  unfold brow
  rw [bst_s G f p i0]
  have := hG.1
  rcases hc with e | e
  · rw [if_pos (by omega)]
    omega
  · rw [if_neg (by omega)]
    have h1 := hq e.1
    have h2 : 0 ≤ bp G (bst G f p i.toNat) i ∧ bp G (bst G f p i.toNat) i < 24 := af_in e.2.2.2.1 e.2.2.2.2 v0 v1
    have h3 := af_in h1.2.2.1 h1.2.2.2 h2.1 h2.2
    omega
set_option maxHeartbeats 2000000 in
theorem l_X2_compare_202 {h : ma_H} {b g nx d : Nat} {t f p : Int} {G L0 : Int → Int} {Q : Option ma_V → ma_H → Nat → Prop} (hN : ∀ L A B C, nh h L A B C 39 = co 2 [vr 40, vr 41, vr 42, vr 43]) (hB : ∀ L A B C, nh h L A B C b = co 8 [vi t, vr g]) (hE : ∀ L A B C, nh h L A B C g = ci 32 G) (hG : VG t G) (hC : CN t G) (hf : 0 ≤ f ∧ f < t) (hp : 0 ≤ p ∧ p < 24) (hL0 : ∀ j, 0 ≤ j → j < 32 → rg (L0 j))
    (K1 : ∀ L A B C, (∀ j, 0 ≤ j → j < 32 → L j = L0 j) → (∃ k, 0 ≤ k ∧ k < 4 * t ∧ (∀ j, 0 ≤ j → j < k → brow G f p j = L0 j) ∧ L0 k < brow G f p k) → Q (some (vi 1)) (nh h L A B C) nx)
    (K0 : ∀ L A B C, (∀ j, 0 ≤ j → j < 32 → L j = L0 j) → (∀ j, 0 ≤ j → j < 4 * t → brow G f p j = L0 j) → Q (some (vi 0)) (nh h L A B C) nx)
    (Km : ∀ L A B C, (∀ j, 0 ≤ j → j < 4 * t → L j = brow G f p j) → (∀ j, 4 * t ≤ j → j < 32 → L j = L0 j) → (∃ k, 0 ≤ k ∧ k < 4 * t ∧ (∀ j, 0 ≤ j → j < k → brow G f p j = L0 j) ∧ brow G f p k < L0 k) → Q (some (vi (-1))) (nh h L A B C) nx)
    {n : Nat} (ih : ∀ (i il kn : Int) (L A B C : Int → Int) (x7 x8 x9 x10 x11 x12 : Option ma_V), 0 ≤ i → i ≤ 4 * t → 4 * t - i < n → NL G f p L0 L i il → NR t (bst G f p i.toNat) A B C → kn = (bst G f p i.toNat).1 → ma_J none mX2_compare d 0 0 38 [some (vr 39), some (vr b), some (vi f), some (vi p), some (vi kn), some (vi il), some (vi i), x7, x8, x9, x10, x11, x12] [] (nh h L A B C) nx Q) (i il kn : Int) (L A B C : Int → Int) (x7 x8 x9 x11 x12 : Option ma_V) (h0 : 0 ≤ i) (h1 : i < 4 * t) (h2 : 4 * t - i < n + 1) (hl : NL G f p L0 L i il) (hR : NR t (bst G f p (i + 1).toNat) A B C) (ek : kn = (bst G f p (i + 1).toNat).1) : ma_J none mX2_compare d 0 0 202 [some (vr 39), some (vr b), some (vi f), some (vi p), some (vi kn), some (vi il), some (vi i), x7, x8, x9, some (vi (brow G f p i)), x11, x12] [] (nh h L A B C) nx Q := by
  have ht := hG.1
  have hb := brow_in hG hC hf hp h0 h1
  have hi0 := hL0 i h0 (by omega)
  unfold rg at hi0
  rcases hl with ⟨rfl, e1, e2⟩ | ⟨rfl, e1, e2, e3⟩
  · have eL : L i = L0 i := e1 i h0 (by omega)
    refine ma_iload dX2_compare_202 rfl ?_
    refine ma_rif_ne 221 dX2_compare_204 rfl (by decide) (fun c204 => absurd c204 (by decide)) (fun c204 => ?_)
    refine ma_iload dX2_compare_207 rfl ?_
    refine ma_aload_n dX2_compare_209 rfl ?_
    refine ma_getf dX2_compare_210 fX2_9 (by first | exact nh_40 | exact nh_41 | exact nh_42 | exact nh_43 | exact hN _ _ _ _ | exact hB _ _ _ _ | exact hE _ _ _ _) (by rfl) ?_
    refine ma_iload dX2_compare_213 rfl ?_
    refine ma_iald dX2_compare_215 (by first | exact nh_40 | exact nh_41 | exact nh_42 | exact nh_43 | exact hN _ _ _ _ | exact hB _ _ _ _ | exact hE _ _ _ _) (by omega) (by omega) (by omega) ?_
    rw [eL]
    refine ma_rcmp_le 221 dX2_compare_216 rfl (by constructor <;> omega) (by constructor <;> omega) (fun c216 => ?_) (fun c216 => ?_)
    · -- 221
      refine ma_iload dX2_compare_221 rfl ?_
      refine ma_rif_ne 238 dX2_compare_223 rfl (by decide) (fun c223 => absurd c223 (by decide)) (fun c223 => ?_)
      refine ma_iload dX2_compare_226 rfl ?_
      refine ma_aload_n dX2_compare_228 rfl ?_
      refine ma_getf dX2_compare_229 fX2_9 (by first | exact nh_40 | exact nh_41 | exact nh_42 | exact nh_43 | exact hN _ _ _ _ | exact hB _ _ _ _ | exact hE _ _ _ _) (by rfl) ?_
      refine ma_iload dX2_compare_232 rfl ?_
      refine ma_iald dX2_compare_234 (by first | exact nh_40 | exact nh_41 | exact nh_42 | exact nh_43 | exact hN _ _ _ _ | exact hB _ _ _ _ | exact hE _ _ _ _) (by omega) (by omega) (by omega) ?_
      rw [eL]
      refine ma_rcmp_ge 242 dX2_compare_235 rfl (by constructor <;> omega) (by constructor <;> omega) (fun c235 => ?_) (fun c235 => ?_)
      · -- 242
        refine ma_iconst dX2_compare_242 ?_
        refine ma_istoreN dX2_compare_243 (by decide) rfl ?_
        refine ma_aload_n dX2_compare_245 rfl ?_
        refine ma_getf dX2_compare_246 fX2_9 (by first | exact nh_40 | exact nh_41 | exact nh_42 | exact nh_43 | exact hN _ _ _ _ | exact hB _ _ _ _ | exact hE _ _ _ _) (by rfl) ?_
        refine ma_iload dX2_compare_249 rfl ?_
        refine ma_iload dX2_compare_251 rfl ?_
        refine ma_iast dX2_compare_253 (by first | exact nh_40 | exact nh_41 | exact nh_42 | exact nh_43 | exact hN _ _ _ _ | exact hB _ _ _ _ | exact hE _ _ _ _) (by omega) (by omega) (by omega) ?_
        rw [nh_p40]
        refine ma_iincN dX2_compare_254 rfl (by decide) rfl ?_
        refine ma_goto 38 dX2_compare_257 rfl ?_
        exact ih (i + 1) _ kn _ A B C _ _ _ _ _ _ (by omega) (by omega) (by omega) (by first | exact Or.inl ⟨rfl, fun j j0 j1 => by unfold uf; split <;> first | (rename_i q; rw [q]; omega) | exact e1 j j0 j1, fun j j0 j1 => by rcases Int.lt_or_eq_of_le (show j ≤ i by omega) with q | q <;> first | exact e2 j j0 q | (rw [q]; omega)⟩ | exact Or.inr ⟨rfl, ⟨i, h0, by omega, e2, c235⟩, fun j j0 j1 => by unfold uf; split <;> first | (rename_i q; rw [q]) | (rw [e1 j j0 (by omega)]; exact (e2 j j0 (by omega)).symm), fun j j0 j1 => by rw [uf_n (by omega)]; exact e1 j (by omega) j1⟩) hR ek
      · -- 238
        refine ma_iconst dX2_compare_238 ?_
        refine ma_goto 243 dX2_compare_239 rfl ?_
        refine ma_istoreN dX2_compare_243 (by decide) rfl ?_
        refine ma_aload_n dX2_compare_245 rfl ?_
        refine ma_getf dX2_compare_246 fX2_9 (by first | exact nh_40 | exact nh_41 | exact nh_42 | exact nh_43 | exact hN _ _ _ _ | exact hB _ _ _ _ | exact hE _ _ _ _) (by rfl) ?_
        refine ma_iload dX2_compare_249 rfl ?_
        refine ma_iload dX2_compare_251 rfl ?_
        refine ma_iast dX2_compare_253 (by first | exact nh_40 | exact nh_41 | exact nh_42 | exact nh_43 | exact hN _ _ _ _ | exact hB _ _ _ _ | exact hE _ _ _ _) (by omega) (by omega) (by omega) ?_
        rw [nh_p40]
        refine ma_iincN dX2_compare_254 rfl (by decide) rfl ?_
        refine ma_goto 38 dX2_compare_257 rfl ?_
        exact ih (i + 1) _ kn _ A B C _ _ _ _ _ _ (by omega) (by omega) (by omega) (by first | exact Or.inl ⟨rfl, fun j j0 j1 => by unfold uf; split <;> first | (rename_i q; rw [q]; omega) | exact e1 j j0 j1, fun j j0 j1 => by rcases Int.lt_or_eq_of_le (show j ≤ i by omega) with q | q <;> first | exact e2 j j0 q | (rw [q]; omega)⟩ | exact Or.inr ⟨rfl, ⟨i, h0, by omega, e2, c235⟩, fun j j0 j1 => by unfold uf; split <;> first | (rename_i q; rw [q]) | (rw [e1 j j0 (by omega)]; exact (e2 j j0 (by omega)).symm), fun j j0 j1 => by rw [uf_n (by omega)]; exact e1 j (by omega) j1⟩) hR ek
    · -- 219
      refine ma_iconst dX2_compare_219 ?_
      exact ma_iret dX2_compare_220 rfl (K1 L A B C e1 ⟨i, h0, h1, e2, c216⟩)
  · have eL : L i = L0 i := e3 i (by omega) (by omega)
    refine ma_iload dX2_compare_202 rfl ?_
    refine ma_rif_ne 221 dX2_compare_204 rfl (by decide) (fun c204 => ?_) (fun c204 => absurd c204 (by decide))
    refine ma_iload dX2_compare_221 rfl ?_
    refine ma_rif_ne 238 dX2_compare_223 rfl (by decide) (fun c223 => ?_) (fun c223 => absurd c223 (by decide))
    refine ma_iconst dX2_compare_238 ?_
    refine ma_goto 243 dX2_compare_239 rfl ?_
    refine ma_istoreN dX2_compare_243 (by decide) rfl ?_
    refine ma_aload_n dX2_compare_245 rfl ?_
    refine ma_getf dX2_compare_246 fX2_9 (by first | exact nh_40 | exact nh_41 | exact nh_42 | exact nh_43 | exact hN _ _ _ _ | exact hB _ _ _ _ | exact hE _ _ _ _) (by rfl) ?_
    refine ma_iload dX2_compare_249 rfl ?_
    refine ma_iload dX2_compare_251 rfl ?_
    refine ma_iast dX2_compare_253 (by first | exact nh_40 | exact nh_41 | exact nh_42 | exact nh_43 | exact hN _ _ _ _ | exact hB _ _ _ _ | exact hE _ _ _ _) (by omega) (by omega) (by omega) ?_
    rw [nh_p40]
    refine ma_iincN dX2_compare_254 rfl (by decide) rfl ?_
    refine ma_goto 38 dX2_compare_257 rfl ?_
    exact ih (i + 1) _ kn _ A B C _ _ _ _ _ _ (by omega) (by omega) (by omega) (Or.inr ⟨rfl, (by obtain ⟨k, k0, k1, k2, k3⟩ := e1; exact ⟨k, k0, by omega, k2, k3⟩), fun j j0 j1 => (by unfold uf; split <;> first | (rename_i q; rw [q]) | exact e2 j j0 (by omega)), fun j j0 j1 => (by rw [uf_n (by omega)]; exact e3 j (by omega) j1)⟩) hR ek
