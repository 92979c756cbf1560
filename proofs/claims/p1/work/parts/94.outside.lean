theorem c_fW1 {h : ma_H} {nx d : Nat} {cm x but : Int} {cl cu : Int → Int} {Q : Option ma_V → ma_H → Nat → Prop} {I : Nat → Int} {j f : Int} (hM : h 73 = co 12 (mo I)) (h94 : h 94 = ci 16 cl) (hg : I 34 = cm) (g0 : 0 ≤ cm ∧ cm ≤ 4) (hL : ∀ j, 0 ≤ j → j < cm → LT cl j (cu j)) (hx : rg x) (hbut : rg but) (j0 : 0 ≤ j ∧ j < cm) (f0 : 0 ≤ f ∧ f < 4) (hb : 4 * j + f ≠ but) (hm : mk5 (cu j) (cl (4 * j + f)) = x) (hu : ∀ j' f', 0 ≤ j' → j' < cm → 0 ≤ f' → f' < 4 → mk5 (cu j') (cl (4 * j' + f')) = x → j' = j ∧ f' = f) (K : Q (some (vi (4 * j + f))) h nx) : ma_Ct mX12_faceWith (d + 1) 0 0 [vr 73, vi x, vi but] h nx Q :=
  c_X12_faceWith hM h94 hg g0 hL hx hbut (fun j' f' a0 a1 b0 b1 _ z => by rw [(hu j' f' a0 a1 b0 b1 z).1, (hu j' f' a0 a1 b0 b1 z).2]; exact K) (fun z => absurd hm (z j f j0.1 j0.2 f0.1 f0.2 hb))
theorem c_fW0 {h : ma_H} {nx d : Nat} {cm x but : Int} {cl cu : Int → Int} {Q : Option ma_V → ma_H → Nat → Prop} {I : Nat → Int} (hM : h 73 = co 12 (mo I)) (h94 : h 94 = ci 16 cl) (hg : I 34 = cm) (g0 : 0 ≤ cm ∧ cm ≤ 4) (hL : ∀ j, 0 ≤ j → j < cm → LT cl j (cu j)) (hx : rg x) (hbut : rg but) (hu : ∀ j' f', 0 ≤ j' → j' < cm → 0 ≤ f' → f' < 4 → mk5 (cu j') (cl (4 * j' + f')) = x → False) (K : Q (some (vi (-1))) h nx) : ma_Ct mX12_faceWith (d + 1) 0 0 [vr 73, vi x, vi but] h nx Q :=
  c_X12_faceWith hM h94 hg g0 hL hx hbut (fun j' f' a0 a1 b0 b1 _ z => (hu j' f' a0 a1 b0 b1 z).elim) (fun _ => K)
set_option maxHeartbeats 2000000 in
theorem l_X12_outS {h : ma_H} {a nx d : Nat} {s i f jy fy is' p s' th to ku ly q : Int} {gl cl TH : Int → Int} {Q : Option ma_V → ma_H → Nat → Prop} {I : Nat → Int} (hM : h 73 = co 12 (mo I)) (h93 : h 93 = ci 16 gl) (h94 : h 94 = ci 16 cl) (i0 : 0 ≤ i ∧ i < 4) (jy0 : 0 ≤ jy ∧ jy < 4) (fy0 : 0 ≤ fy ∧ fy < 4) (hp : 0 ≤ p ∧ p < 24) (hLi : LT gl i ku) (hLy : LT cl jy ly) (hq : 0 ≤ q ∧ q < 24) (eq1 : im q fy = th) (hl : ∀ c, 0 ≤ c → c < 4 → c ≠ fy → ∃ e, 0 ≤ e ∧ e < 4 ∧ gl (4 * i + e) = cl (4 * jy + c) ∧ im p e = im q c) (KO : ∀ V x14, (∀ k, 0 ≤ k → k < 4 → V k = im q k) → ma_J none mX12_outside (d + 2) 0 0 260 [some (vr 73), some (vr a), some (vi s), some (vi i), some (vi f), some (vi (4 * jy + fy)), some (vi is'), some (vi jy), some (vi p), some (vi s'), some (vi (-1)), some (vi th), some (vi to), some (vi 4), x14] [] (ma_up (ma_up h 84 (ci 4 V)) 96 (ci 33 TH)) nx Q) :
    ∀ (m : Nat) (c : Int) (V : Int → Int) (x14 : Option ma_V), (0 ≤ c) → (c ≤ 4) → (4 - c < m) → (∀ k', 0 ≤ k' → k' < c → V k' = im q k') → ma_J none mX12_outside (d + 2) 0 0 159 [some (vr 73), some (vr a), some (vi s), some (vi i), some (vi f), some (vi (4 * jy + fy)), some (vi is'), some (vi jy), some (vi p), some (vi s'), some (vi (-1)), some (vi th), some (vi to), some (vi c), x14] [] (ma_up (ma_up h 84 (ci 4 V)) 96 (ci 33 TH)) nx Q := by
  intro m
  induction m with
  | zero => intro c V x14 c0 c1 c2 hV; omega
  | succ m ih =>
    intro c V x14 c0 c1 c2 hV
    refine ma_iload dX12_outside_159 rfl ?_
    refine ma_iconst dX12_outside_161 ?_
    refine ma_rcmp_ge 260 dX12_outside_162 rfl (by constructor <;> omega) (by constructor <;> omega) (fun c162 => ?_) (fun c162 => ?_)
    · -- 260
      have e4 : c = 4 := by omega
      subst e4
      exact KO V _ (fun k k0 k1 => hV k k0 k1)
    · -- 165
      refine ma_iload dX12_outside_165 rfl ?_
      refine ma_iload dX12_outside_167 rfl ?_
      refine ma_iconst dX12_outside_169 ?_
      refine ma_kmod dX12_outside_170 (by constructor <;> omega) (by constructor <;> omega) ?_
      rw [show (4 * jy + fy) % 4 = fy by omega]
      refine ma_rcmp_ne 186 dX12_outside_171 rfl (by constructor <;> omega) (by constructor <;> omega) (fun c171 => ?_) (fun c171 => ?_)
      · -- 186
        obtain ⟨e, e0, e1, e2, e3⟩ := hl c c0 (by omega) c171
        refine ma_iload dX12_outside_186 rfl ?_
        refine ma_aload_n dX12_outside_188 rfl ?_
        refine ma_getf dX12_outside_189 fX12_69 (by first | exact ma_up_s _ _ _ | exact (ma_up_n (by decide)).trans (ma_up_s _ _ _) | exact (ma_up_n (by first | decide | omega)).trans ((ma_up_n (by first | decide | omega)).trans (by assumption))) (by rfl) ?_
        refine ma_iload_n dX12_outside_192 rfl ?_
        refine ma_aload_n dX12_outside_193 rfl ?_
        refine ma_getf dX12_outside_194 fX12_72 (by first | exact ma_up_s _ _ _ | exact (ma_up_n (by decide)).trans (ma_up_s _ _ _) | exact (ma_up_n (by first | decide | omega)).trans ((ma_up_n (by first | decide | omega)).trans (by assumption))) (by rfl) ?_
        refine ma_iconst dX12_outside_197 ?_
        refine ma_iload dX12_outside_198 rfl ?_
        refine ma_imul dX12_outside_200 ?_
        refine ma_iload dX12_outside_201 rfl ?_
        refine ma_iadd dX12_outside_203 ?_
        refine ma_iald dX12_outside_204 (by first | exact ma_up_s _ _ _ | exact (ma_up_n (by decide)).trans (ma_up_s _ _ _) | exact (ma_up_n (by first | decide | omega)).trans ((ma_up_n (by first | decide | omega)).trans (by assumption))) (by omega) (by omega) (by omega) ?_
        refine ma_cS [_, _, _] dX12_outside_205 wX12_cornerOf lX12_399 tX12_cornerOf (Nat.le_of_ble_eq_true rfl) ?_
        refine c_X12_cornerOf ((ma_up_n (by decide)).trans ((ma_up_n (by decide)).trans h93)) hLi i0 ⟨e0, e1⟩ e2 ?_
        refine ma_cS [_, _] dX12_outside_208 wX12_image lX12_124 tX12_image (Nat.le_of_ble_eq_true rfl) ?_
        refine c_X12_image hp ⟨e0, e1⟩ ?_
        have we := im_in hp.1 hp.2 e0 e1
        refine ma_istoreN dX12_outside_211 (by decide) rfl ?_
        refine ma_aload_n dX12_outside_213 rfl ?_
        refine ma_getf dX12_outside_214 fX12_42 (by first | exact ma_up_s _ _ _ | exact (ma_up_n (by decide)).trans (ma_up_s _ _ _) | exact (ma_up_n (by first | decide | omega)).trans ((ma_up_n (by first | decide | omega)).trans (by assumption))) (by rfl) ?_
        refine ma_iload dX12_outside_217 rfl ?_
        refine ma_iload dX12_outside_219 rfl ?_
        refine ma_iconst dX12_outside_221 ?_
        refine ma_rcmp_ne 230 dX12_outside_222 rfl (by decide) (by decide) (fun c222 => absurd c222 (by decide)) (fun c222 => ?_)
        refine ma_iload dX12_outside_225 rfl ?_
        refine ma_goto 253 dX12_outside_227 rfl ?_
        refine ma_iast dX12_outside_253 (by first | exact ma_up_s _ _ _ | exact (ma_up_n (by decide)).trans (ma_up_s _ _ _) | exact (ma_up_n (by first | decide | omega)).trans ((ma_up_n (by first | decide | omega)).trans (by assumption))) (by omega) (by omega) (by omega) ?_
        rw [fl_e (by decide)]
        refine ma_iincN dX12_outside_254 rfl (by decide) rfl ?_
        refine ma_goto 159 dX12_outside_257 rfl ?_
        exact ih (c + 1) _ _ (by omega) (by omega) (by omega) (fun k' a0 a1 => by
          by_cases z : k' = c
          · rw [z, uf_s]; exact e3
          · rw [uf_n z]; exact hV k' a0 (by omega))
      · -- 174
        refine ma_aload_n dX12_outside_174 rfl ?_
        refine ma_getf dX12_outside_175 fX12_42 (by first | exact ma_up_s _ _ _ | exact (ma_up_n (by decide)).trans (ma_up_s _ _ _) | exact (ma_up_n (by first | decide | omega)).trans ((ma_up_n (by first | decide | omega)).trans (by assumption))) (by rfl) ?_
        refine ma_iload dX12_outside_178 rfl ?_
        refine ma_iload dX12_outside_180 rfl ?_
        refine ma_iast dX12_outside_182 (by first | exact ma_up_s _ _ _ | exact (ma_up_n (by decide)).trans (ma_up_s _ _ _) | exact (ma_up_n (by first | decide | omega)).trans ((ma_up_n (by first | decide | omega)).trans (by assumption))) (by omega) (by omega) (by omega) ?_
        rw [fl_e (by decide)]
        refine ma_goto 254 dX12_outside_183 rfl ?_
        refine ma_iincN dX12_outside_254 rfl (by decide) rfl ?_
        refine ma_goto 159 dX12_outside_257 rfl ?_
        exact ih (c + 1) _ _ (by omega) (by omega) (by omega) (fun k' a0 a1 => by
          by_cases z : k' = c
          · rw [z, uf_s]; rw [show c = fy by omega]; exact eq1.symm
          · rw [uf_n z]; exact hV k' a0 (by omega))
set_option maxHeartbeats 2000000 in
theorem l_X12_outG {h : ma_H} {a nx d : Nat} {s i f jy fy is' p s' th ku ly q io jo ku' ly' : Int} {gl cl TH : Int → Int} {Q : Option ma_V → ma_H → Nat → Prop} {I : Nat → Int} (hM : h 73 = co 12 (mo I)) (h93 : h 93 = ci 16 gl) (h94 : h 94 = ci 16 cl) (i0 : 0 ≤ i ∧ i < 4) (jy0 : 0 ≤ jy ∧ jy < 4) (fy0 : 0 ≤ fy ∧ fy < 4) (hp : 0 ≤ p ∧ p < 24) (hLi : LT gl i ku) (hLy : LT cl jy ly) (hq : 0 ≤ q ∧ q < 24) (eq1 : im q fy = th) (io0 : 0 ≤ io ∧ io < 4) (jo0 : 0 ≤ jo ∧ jo < 4) (hLo : LT gl io ku') (hLc : LT cl jo ly') (hl : ∀ c, 0 ≤ c → c < 4 → c ≠ fy → ∃ e, 0 ≤ e ∧ e < 4 ∧ gl (4 * i + e) = cl (4 * jy + c) ∧ cl (4 * jo + im q c) = gl (4 * io + im p e)) (KO : ∀ V x14, (∀ k, 0 ≤ k → k < 4 → V k = im q k) → ma_J none mX12_outside (d + 2) 0 0 260 [some (vr 73), some (vr a), some (vi s), some (vi i), some (vi f), some (vi (4 * jy + fy)), some (vi is'), some (vi jy), some (vi p), some (vi s'), some (vi io), some (vi th), some (vi (s + jo)), some (vi 4), x14] [] (ma_up (ma_up h 84 (ci 4 V)) 96 (ci 33 TH)) nx Q) :
    ∀ (m : Nat) (c : Int) (V : Int → Int) (x14 : Option ma_V), (0 ≤ c) → (c ≤ 4) → (4 - c < m) → (∀ k', 0 ≤ k' → k' < c → V k' = im q k') → ma_J none mX12_outside (d + 2) 0 0 159 [some (vr 73), some (vr a), some (vi s), some (vi i), some (vi f), some (vi (4 * jy + fy)), some (vi is'), some (vi jy), some (vi p), some (vi s'), some (vi io), some (vi th), some (vi (s + jo)), some (vi c), x14] [] (ma_up (ma_up h 84 (ci 4 V)) 96 (ci 33 TH)) nx Q := by
  intro m
  induction m with
  | zero => intro c V x14 c0 c1 c2 hV; omega
  | succ m ih =>
    intro c V x14 c0 c1 c2 hV
    refine ma_iload dX12_outside_159 rfl ?_
    refine ma_iconst dX12_outside_161 ?_
    refine ma_rcmp_ge 260 dX12_outside_162 rfl (by constructor <;> omega) (by constructor <;> omega) (fun c162 => ?_) (fun c162 => ?_)
    · -- 260
      have e4 : c = 4 := by omega
      subst e4
      exact KO V _ (fun k k0 k1 => hV k k0 k1)
    · -- 165
      refine ma_iload dX12_outside_165 rfl ?_
      refine ma_iload dX12_outside_167 rfl ?_
      refine ma_iconst dX12_outside_169 ?_
      refine ma_kmod dX12_outside_170 (by constructor <;> omega) (by constructor <;> omega) ?_
      rw [show (4 * jy + fy) % 4 = fy by omega]
      refine ma_rcmp_ne 186 dX12_outside_171 rfl (by constructor <;> omega) (by constructor <;> omega) (fun c171 => ?_) (fun c171 => ?_)
      · -- 186
        obtain ⟨e, e0, e1, e2, e3⟩ := hl c c0 (by omega) c171
        refine ma_iload dX12_outside_186 rfl ?_
        refine ma_aload_n dX12_outside_188 rfl ?_
        refine ma_getf dX12_outside_189 fX12_69 (by first | exact ma_up_s _ _ _ | exact (ma_up_n (by decide)).trans (ma_up_s _ _ _) | exact (ma_up_n (by first | decide | omega)).trans ((ma_up_n (by first | decide | omega)).trans (by assumption))) (by rfl) ?_
        refine ma_iload_n dX12_outside_192 rfl ?_
        refine ma_aload_n dX12_outside_193 rfl ?_
        refine ma_getf dX12_outside_194 fX12_72 (by first | exact ma_up_s _ _ _ | exact (ma_up_n (by decide)).trans (ma_up_s _ _ _) | exact (ma_up_n (by first | decide | omega)).trans ((ma_up_n (by first | decide | omega)).trans (by assumption))) (by rfl) ?_
        refine ma_iconst dX12_outside_197 ?_
        refine ma_iload dX12_outside_198 rfl ?_
        refine ma_imul dX12_outside_200 ?_
        refine ma_iload dX12_outside_201 rfl ?_
        refine ma_iadd dX12_outside_203 ?_
        refine ma_iald dX12_outside_204 (by first | exact ma_up_s _ _ _ | exact (ma_up_n (by decide)).trans (ma_up_s _ _ _) | exact (ma_up_n (by first | decide | omega)).trans ((ma_up_n (by first | decide | omega)).trans (by assumption))) (by omega) (by omega) (by omega) ?_
        refine ma_cS [_, _, _] dX12_outside_205 wX12_cornerOf lX12_399 tX12_cornerOf (Nat.le_of_ble_eq_true rfl) ?_
        refine c_X12_cornerOf ((ma_up_n (by decide)).trans ((ma_up_n (by decide)).trans h93)) hLi i0 ⟨e0, e1⟩ e2 ?_
        refine ma_cS [_, _] dX12_outside_208 wX12_image lX12_124 tX12_image (Nat.le_of_ble_eq_true rfl) ?_
        refine c_X12_image hp ⟨e0, e1⟩ ?_
        have we := im_in hp.1 hp.2 e0 e1
        refine ma_istoreN dX12_outside_211 (by decide) rfl ?_
        refine ma_aload_n dX12_outside_213 rfl ?_
        refine ma_getf dX12_outside_214 fX12_42 (by first | exact ma_up_s _ _ _ | exact (ma_up_n (by decide)).trans (ma_up_s _ _ _) | exact (ma_up_n (by first | decide | omega)).trans ((ma_up_n (by first | decide | omega)).trans (by assumption))) (by rfl) ?_
        refine ma_iload dX12_outside_217 rfl ?_
        refine ma_iload dX12_outside_219 rfl ?_
        refine ma_iconst dX12_outside_221 ?_
        refine ma_rcmp_ne 230 dX12_outside_222 rfl (by constructor <;> omega) (by decide) (fun c222 => ?_) (fun c222 => absurd c222 (by omega))
        refine ma_aload_n dX12_outside_230 rfl ?_
        refine ma_getf dX12_outside_231 fX12_72 (by first | exact ma_up_s _ _ _ | exact (ma_up_n (by decide)).trans (ma_up_s _ _ _) | exact (ma_up_n (by first | decide | omega)).trans ((ma_up_n (by first | decide | omega)).trans (by assumption))) (by rfl) ?_
        refine ma_iload dX12_outside_234 rfl ?_
        refine ma_iload_n dX12_outside_236 rfl ?_
        refine ma_isub dX12_outside_237 ?_
        rw [show s + jo - s = jo by omega]
        refine ma_aload_n dX12_outside_238 rfl ?_
        refine ma_getf dX12_outside_239 fX12_69 (by first | exact ma_up_s _ _ _ | exact (ma_up_n (by decide)).trans (ma_up_s _ _ _) | exact (ma_up_n (by first | decide | omega)).trans ((ma_up_n (by first | decide | omega)).trans (by assumption))) (by rfl) ?_
        refine ma_iconst dX12_outside_242 ?_
        refine ma_iload dX12_outside_243 rfl ?_
        refine ma_imul dX12_outside_245 ?_
        refine ma_iload dX12_outside_246 rfl ?_
        refine ma_iadd dX12_outside_248 ?_
        refine ma_iald dX12_outside_249 (by first | exact ma_up_s _ _ _ | exact (ma_up_n (by decide)).trans (ma_up_s _ _ _) | exact (ma_up_n (by first | decide | omega)).trans ((ma_up_n (by first | decide | omega)).trans (by assumption))) (by omega) (by omega) (by omega) ?_
        refine ma_cS [_, _, _] dX12_outside_250 wX12_cornerOf lX12_399 tX12_cornerOf (Nat.le_of_ble_eq_true rfl) ?_
        refine c_X12_cornerOf ((ma_up_n (by decide)).trans ((ma_up_n (by decide)).trans h94)) hLc jo0 (im_in hq.1 hq.2 c0 (show c < 4 by omega)) e3 ?_
        refine ma_iast dX12_outside_253 (by first | exact ma_up_s _ _ _ | exact (ma_up_n (by decide)).trans (ma_up_s _ _ _) | exact (ma_up_n (by first | decide | omega)).trans ((ma_up_n (by first | decide | omega)).trans (by assumption))) (by omega) (by omega) (by omega) ?_
        rw [fl_e (by decide)]
        refine ma_iincN dX12_outside_254 rfl (by decide) rfl ?_
        refine ma_goto 159 dX12_outside_257 rfl ?_
        exact ih (c + 1) _ _ (by omega) (by omega) (by omega) (fun k' a0 a1 => by
          by_cases z : k' = c
          · rw [z, uf_s]
          · rw [uf_n z]; exact hV k' a0 (by omega))
      · -- 174
        refine ma_aload_n dX12_outside_174 rfl ?_
        refine ma_getf dX12_outside_175 fX12_42 (by first | exact ma_up_s _ _ _ | exact (ma_up_n (by decide)).trans (ma_up_s _ _ _) | exact (ma_up_n (by first | decide | omega)).trans ((ma_up_n (by first | decide | omega)).trans (by assumption))) (by rfl) ?_
        refine ma_iload dX12_outside_178 rfl ?_
        refine ma_iload dX12_outside_180 rfl ?_
        refine ma_iast dX12_outside_182 (by first | exact ma_up_s _ _ _ | exact (ma_up_n (by decide)).trans (ma_up_s _ _ _) | exact (ma_up_n (by first | decide | omega)).trans ((ma_up_n (by first | decide | omega)).trans (by assumption))) (by omega) (by omega) (by omega) ?_
        rw [fl_e (by decide)]
        refine ma_goto 254 dX12_outside_183 rfl ?_
        refine ma_iincN dX12_outside_254 rfl (by decide) rfl ?_
        refine ma_goto 159 dX12_outside_257 rfl ?_
        exact ih (c + 1) _ _ (by omega) (by omega) (by omega) (fun k' a0 a1 => by
          by_cases z : k' = c
          · rw [z, uf_s]; rw [show c = fy by omega]; exact eq1.symm
          · rw [uf_n z]; exact hV k' a0 (by omega))
set_option maxHeartbeats 2000000 in
theorem c_out0 {h : ma_H} {a nx d : Nat} {s i f ku gm cm g : Int} {go gl cl cu MV Aa TH V pf : Int → Int} {Q : Option ma_V → ma_H → Nat → Prop} {I : Nat → Int} (hM : h 73 = co 12 (mo I)) (h77 : h 77 = ci 64 pf) (hf : PB pf) (h92 : h 92 = ci 4 go) (h93 : h 93 = ci 16 gl) (h94 : h 94 = ci 16 cl) (h95 : h 95 = ci 8 MV) (ha : h a = ci 33 Aa) (na : a ≠ 84 ∧ a ≠ 96) (hgm : I 32 = gm) (hcm : I 34 = cm) (gm0 : 1 ≤ gm ∧ gm ≤ 4) (cm0 : 1 ≤ cm ∧ cm ≤ 4) (hgo : ∀ i, 0 ≤ i → i < gm → 0 ≤ go i ∧ go i < 8) (hL : ∀ j, 0 ≤ j → j < cm → LT cl j (cu j)) (hLi : LT gl i ku) (i0 : 0 ≤ i ∧ i < gm) (f0 : 0 ≤ f ∧ f < 4) (s0 : 0 ≤ s ∧ s + cm ≤ 8) (hu : ∀ j' f', 0 ≤ j' → j' < cm → 0 ≤ f' → f' < 4 → mk5 (cu j') (cl (4 * j' + f')) = mk5 ku (gl (4 * i + f)) → False) (K : Q none (ma_up (ma_up h 84 (ci 4 V)) 96 (ci 33 TH)) nx) : ma_Ct mX12_outside (d + 2) 0 0 [vr 73, vr a, vi s, vi i, vi f] (ma_up (ma_up h 84 (ci 4 V)) 96 (ci 33 TH)) nx Q := by
  refine ma_Ct.of (by decide +kernel) (Nat.le_of_ble_eq_true rfl) ?_
  refine ma_aload_n dX12_outside_0 rfl ?_
  refine ma_aload_n dX12_outside_1 rfl ?_
  refine ma_getf dX12_outside_2 fX12_69 (by first | exact ma_up_s _ _ _ | exact (ma_up_n (by decide)).trans (ma_up_s _ _ _) | exact (ma_up_n (by first | decide | omega)).trans ((ma_up_n (by first | decide | omega)).trans (by assumption))) (by rfl) ?_
  refine ma_iload_n dX12_outside_5 rfl ?_
  refine ma_iload dX12_outside_6 rfl ?_
  refine ma_cS [_, _, _] dX12_outside_8 wX12_labelsOf lX12_384 tX12_labelsOf (Nat.le_of_ble_eq_true rfl) ?_
  refine c_X12_labelsOf ((ma_up_n (by decide)).trans ((ma_up_n (by decide)).trans h93)) hLi (by constructor <;> omega) f0 ?_
  have mb := mk5_b hLi f0.1 f0.2
  refine ma_iconst dX12_outside_11 ?_
  refine ma_cV [_, _] dX12_outside_12 wX12_faceWith lX12_396 iX12_faceWith sX12_faceWith rfl (by first | exact ma_up_s _ _ _ | exact (ma_up_n (by decide)).trans (ma_up_s _ _ _) | exact (ma_up_n (by first | decide | omega)).trans ((ma_up_n (by first | decide | omega)).trans (by assumption))) (Nat.le_of_ble_eq_true rfl) ?_
  refine c_fW0 ((ma_up_n (by decide)).trans ((ma_up_n (by decide)).trans hM)) ((ma_up_n (by decide)).trans ((ma_up_n (by decide)).trans h94)) hcm (by omega) hL (by unfold rg; omega) (by unfold rg; omega) hu ?_
  refine ma_istoreN dX12_outside_15 (by decide) rfl ?_
  refine ma_aload_n dX12_outside_17 rfl ?_
  refine ma_aload_n dX12_outside_18 rfl ?_
  refine ma_getf dX12_outside_19 fX12_66 (by first | exact ma_up_s _ _ _ | exact (ma_up_n (by decide)).trans (ma_up_s _ _ _) | exact (ma_up_n (by first | decide | omega)).trans ((ma_up_n (by first | decide | omega)).trans (by assumption))) (by rfl) ?_
  refine ma_iload_n dX12_outside_22 rfl ?_
  refine ma_iald dX12_outside_23 (by first | exact ma_up_s _ _ _ | exact (ma_up_n (by decide)).trans (ma_up_s _ _ _) | exact (ma_up_n (by first | decide | omega)).trans ((ma_up_n (by first | decide | omega)).trans (by assumption))) (by omega) (by omega) (by omega) ?_
  refine ma_iload dX12_outside_24 rfl ?_
  refine ma_cS [_, _, _] dX12_outside_26 wX12_glue lX12_150 tX12_glue (Nat.le_of_ble_eq_true rfl) ?_
  refine c_X12_glue ((ma_up_n na.2).trans ((ma_up_n na.1).trans ha)) (by have := hgo i i0.1 i0.2; constructor <;> omega) f0 ?_
  refine ma_istoreN dX12_outside_29 (by decide) rfl ?_
  refine ma_iload dX12_outside_31 rfl ?_
  refine ma_iconst dX12_outside_33 ?_
  refine ma_rcmp_eq 43 dX12_outside_34 rfl (by decide) (by decide) (fun c34 => ?_) (fun c34 => absurd c34 (by decide))
  exact ma_vret dX12_outside_43 rfl K
set_option maxHeartbeats 2000000 in
theorem c_out1 {h : ma_H} {a nx d : Nat} {s i f ku gm cm g : Int} {go gl cl cu MV Aa TH V pf : Int → Int} {Q : Option ma_V → ma_H → Nat → Prop} {I : Nat → Int} {jy fy : Int} (hM : h 73 = co 12 (mo I)) (h77 : h 77 = ci 64 pf) (hf : PB pf) (h92 : h 92 = ci 4 go) (h93 : h 93 = ci 16 gl) (h94 : h 94 = ci 16 cl) (h95 : h 95 = ci 8 MV) (ha : h a = ci 33 Aa) (na : a ≠ 84 ∧ a ≠ 96) (hgm : I 32 = gm) (hcm : I 34 = cm) (gm0 : 1 ≤ gm ∧ gm ≤ 4) (cm0 : 1 ≤ cm ∧ cm ≤ 4) (hgo : ∀ i, 0 ≤ i → i < gm → 0 ≤ go i ∧ go i < 8) (hL : ∀ j, 0 ≤ j → j < cm → LT cl j (cu j)) (hLi : LT gl i ku) (i0 : 0 ≤ i ∧ i < gm) (f0 : 0 ≤ f ∧ f < 4) (s0 : 0 ≤ s ∧ s + cm ≤ 8) (jy0 : 0 ≤ jy ∧ jy < cm) (fy0 : 0 ≤ fy ∧ fy < 4) (hm : mk5 (cu jy) (cl (4 * jy + fy)) = mk5 ku (gl (4 * i + f))) (hu : ∀ j' f', 0 ≤ j' → j' < cm → 0 ≤ f' → f' < 4 → mk5 (cu j') (cl (4 * j' + f')) = mk5 ku (gl (4 * i + f)) → j' = jy ∧ f' = fy) (hA : Aa (1 + 4 * go i + f) = -1) (K : Q none (ma_up (ma_up h 84 (ci 4 V)) 96 (ci 33 TH)) nx) : ma_Ct mX12_outside (d + 2) 0 0 [vr 73, vr a, vi s, vi i, vi f] (ma_up (ma_up h 84 (ci 4 V)) 96 (ci 33 TH)) nx Q := by
  refine ma_Ct.of (by decide +kernel) (Nat.le_of_ble_eq_true rfl) ?_
  refine ma_aload_n dX12_outside_0 rfl ?_
  refine ma_aload_n dX12_outside_1 rfl ?_
  refine ma_getf dX12_outside_2 fX12_69 (by first | exact ma_up_s _ _ _ | exact (ma_up_n (by decide)).trans (ma_up_s _ _ _) | exact (ma_up_n (by first | decide | omega)).trans ((ma_up_n (by first | decide | omega)).trans (by assumption))) (by rfl) ?_
  refine ma_iload_n dX12_outside_5 rfl ?_
  refine ma_iload dX12_outside_6 rfl ?_
  refine ma_cS [_, _, _] dX12_outside_8 wX12_labelsOf lX12_384 tX12_labelsOf (Nat.le_of_ble_eq_true rfl) ?_
  refine c_X12_labelsOf ((ma_up_n (by decide)).trans ((ma_up_n (by decide)).trans h93)) hLi (by constructor <;> omega) f0 ?_
  have mb := mk5_b hLi f0.1 f0.2
  refine ma_iconst dX12_outside_11 ?_
  refine ma_cV [_, _] dX12_outside_12 wX12_faceWith lX12_396 iX12_faceWith sX12_faceWith rfl (by first | exact ma_up_s _ _ _ | exact (ma_up_n (by decide)).trans (ma_up_s _ _ _) | exact (ma_up_n (by first | decide | omega)).trans ((ma_up_n (by first | decide | omega)).trans (by assumption))) (Nat.le_of_ble_eq_true rfl) ?_
  refine c_fW1 ((ma_up_n (by decide)).trans ((ma_up_n (by decide)).trans hM)) ((ma_up_n (by decide)).trans ((ma_up_n (by decide)).trans h94)) hcm (by omega) hL (by unfold rg; omega) (by unfold rg; omega) jy0 fy0 (by omega) hm hu ?_
  refine ma_istoreN dX12_outside_15 (by decide) rfl ?_
  refine ma_aload_n dX12_outside_17 rfl ?_
  refine ma_aload_n dX12_outside_18 rfl ?_
  refine ma_getf dX12_outside_19 fX12_66 (by first | exact ma_up_s _ _ _ | exact (ma_up_n (by decide)).trans (ma_up_s _ _ _) | exact (ma_up_n (by first | decide | omega)).trans ((ma_up_n (by first | decide | omega)).trans (by assumption))) (by rfl) ?_
  refine ma_iload_n dX12_outside_22 rfl ?_
  refine ma_iald dX12_outside_23 (by first | exact ma_up_s _ _ _ | exact (ma_up_n (by decide)).trans (ma_up_s _ _ _) | exact (ma_up_n (by first | decide | omega)).trans ((ma_up_n (by first | decide | omega)).trans (by assumption))) (by omega) (by omega) (by omega) ?_
  refine ma_iload dX12_outside_24 rfl ?_
  refine ma_cS [_, _, _] dX12_outside_26 wX12_glue lX12_150 tX12_glue (Nat.le_of_ble_eq_true rfl) ?_
  refine c_X12_glue ((ma_up_n na.2).trans ((ma_up_n na.1).trans ha)) (by have := hgo i i0.1 i0.2; constructor <;> omega) f0 ?_
  rw [hA]
  refine ma_istoreN dX12_outside_29 (by decide) rfl ?_
  refine ma_iload dX12_outside_31 rfl ?_
  refine ma_iconst dX12_outside_33 ?_
  refine ma_rcmp_eq 43 dX12_outside_34 rfl (by constructor <;> omega) (by decide) (fun c34 => absurd c34 (by omega)) (fun c34 => ?_)
  refine ma_iload dX12_outside_37 rfl ?_
  refine ma_iconst dX12_outside_39 ?_
  refine ma_rcmp_ne 44 dX12_outside_40 rfl (by decide) (by decide) (fun c40 => absurd rfl c40) (fun c40 => ?_)
  exact ma_vret dX12_outside_43 rfl K
set_option maxHeartbeats 2000000 in
theorem c_outS {h : ma_H} {a nx d : Nat} {s i f ku gm cm g : Int} {go gl cl cu MV Aa TH V pf : Int → Int} {Q : Option ma_V → ma_H → Nat → Prop} {I : Nat → Int} {jy fy q : Int} (hM : h 73 = co 12 (mo I)) (h77 : h 77 = ci 64 pf) (hf : PB pf) (h92 : h 92 = ci 4 go) (h93 : h 93 = ci 16 gl) (h94 : h 94 = ci 16 cl) (h95 : h 95 = ci 8 MV) (ha : h a = ci 33 Aa) (na : a ≠ 84 ∧ a ≠ 96) (hgm : I 32 = gm) (hcm : I 34 = cm) (gm0 : 1 ≤ gm ∧ gm ≤ 4) (cm0 : 1 ≤ cm ∧ cm ≤ 4) (hgo : ∀ i, 0 ≤ i → i < gm → 0 ≤ go i ∧ go i < 8) (hL : ∀ j, 0 ≤ j → j < cm → LT cl j (cu j)) (hLi : LT gl i ku) (i0 : 0 ≤ i ∧ i < gm) (f0 : 0 ≤ f ∧ f < 4) (s0 : 0 ≤ s ∧ s + cm ≤ 8) (jy0 : 0 ≤ jy ∧ jy < cm) (fy0 : 0 ≤ fy ∧ fy < 4) (hm : mk5 (cu jy) (cl (4 * jy + fy)) = mk5 ku (gl (4 * i + f))) (hu : ∀ j' f', 0 ≤ j' → j' < cm → 0 ≤ f' → f' < 4 → mk5 (cu j') (cl (4 * j' + f')) = mk5 ku (gl (4 * i + f)) → j' = jy ∧ f' = fy) (hA : Aa (1 + 4 * go i + f) = cv g) (g0 : 0 ≤ g ∧ g < 256 ∧ g % 32 < 24) (hgn : ∀ i', 0 ≤ i' → i' < gm → go i' ≠ g / 32) (mv : 0 ≤ MV (g / 32) ∧ MV (g / 32) < 8) (hq : 0 ≤ q ∧ q < 24) (eq1 : im q fy = im (g % 32) f) (hl : ∀ c, 0 ≤ c → c < 4 → c ≠ fy → ∃ e, 0 ≤ e ∧ e < 4 ∧ gl (4 * i + e) = cl (4 * jy + c) ∧ im (g % 32) e = im q c) (K : ∀ V', Q none (ma_up (ma_up h 84 (ci 4 V')) 96 (ci 33 (uf (uf TH (1 + 4 * (s + jy) + fy) (24 * MV (g / 32) + q)) (1 + 4 * MV (g / 32) + im (g % 32) f) (24 * (s + jy) + iv q)))) nx) : ma_Ct mX12_outside (d + 2) 0 0 [vr 73, vr a, vi s, vi i, vi f] (ma_up (ma_up h 84 (ci 4 V)) 96 (ci 33 TH)) nx Q := by
  have cp := cv_p g0.1 g0.2.2
  have hp : 0 ≤ g % 32 ∧ g % 32 < 24 := ⟨by omega, g0.2.2⟩
  have wf := im_in hp.1 hp.2 f0.1 f0.2
  have hcb : cv g < 192 := by omega
  refine ma_Ct.of (by decide +kernel) (Nat.le_of_ble_eq_true rfl) ?_
  refine ma_aload_n dX12_outside_0 rfl ?_
  refine ma_aload_n dX12_outside_1 rfl ?_
  refine ma_getf dX12_outside_2 fX12_69 (by first | exact ma_up_s _ _ _ | exact (ma_up_n (by decide)).trans (ma_up_s _ _ _) | exact (ma_up_n (by first | decide | omega)).trans ((ma_up_n (by first | decide | omega)).trans (by assumption))) (by rfl) ?_
  refine ma_iload_n dX12_outside_5 rfl ?_
  refine ma_iload dX12_outside_6 rfl ?_
  refine ma_cS [_, _, _] dX12_outside_8 wX12_labelsOf lX12_384 tX12_labelsOf (Nat.le_of_ble_eq_true rfl) ?_
  refine c_X12_labelsOf ((ma_up_n (by decide)).trans ((ma_up_n (by decide)).trans h93)) hLi (by constructor <;> omega) f0 ?_
  have mb := mk5_b hLi f0.1 f0.2
  refine ma_iconst dX12_outside_11 ?_
  refine ma_cV [_, _] dX12_outside_12 wX12_faceWith lX12_396 iX12_faceWith sX12_faceWith rfl (by first | exact ma_up_s _ _ _ | exact (ma_up_n (by decide)).trans (ma_up_s _ _ _) | exact (ma_up_n (by first | decide | omega)).trans ((ma_up_n (by first | decide | omega)).trans (by assumption))) (Nat.le_of_ble_eq_true rfl) ?_
  refine c_fW1 ((ma_up_n (by decide)).trans ((ma_up_n (by decide)).trans hM)) ((ma_up_n (by decide)).trans ((ma_up_n (by decide)).trans h94)) hcm (by omega) hL (by unfold rg; omega) (by unfold rg; omega) jy0 fy0 (by omega) hm hu ?_
  refine ma_istoreN dX12_outside_15 (by decide) rfl ?_
  refine ma_aload_n dX12_outside_17 rfl ?_
  refine ma_aload_n dX12_outside_18 rfl ?_
  refine ma_getf dX12_outside_19 fX12_66 (by first | exact ma_up_s _ _ _ | exact (ma_up_n (by decide)).trans (ma_up_s _ _ _) | exact (ma_up_n (by first | decide | omega)).trans ((ma_up_n (by first | decide | omega)).trans (by assumption))) (by rfl) ?_
  refine ma_iload_n dX12_outside_22 rfl ?_
  refine ma_iald dX12_outside_23 (by first | exact ma_up_s _ _ _ | exact (ma_up_n (by decide)).trans (ma_up_s _ _ _) | exact (ma_up_n (by first | decide | omega)).trans ((ma_up_n (by first | decide | omega)).trans (by assumption))) (by omega) (by omega) (by omega) ?_
  refine ma_iload dX12_outside_24 rfl ?_
  refine ma_cS [_, _, _] dX12_outside_26 wX12_glue lX12_150 tX12_glue (Nat.le_of_ble_eq_true rfl) ?_
  refine c_X12_glue ((ma_up_n na.2).trans ((ma_up_n na.1).trans ha)) (by have := hgo i i0.1 i0.2; constructor <;> omega) f0 ?_
  rw [hA]
  refine ma_istoreN dX12_outside_29 (by decide) rfl ?_
  refine ma_iload dX12_outside_31 rfl ?_
  refine ma_iconst dX12_outside_33 ?_
  refine ma_rcmp_eq 43 dX12_outside_34 rfl (by constructor <;> omega) (by decide) (fun c34 => absurd c34 (by omega)) (fun c34 => ?_)
  refine ma_iload dX12_outside_37 rfl ?_
  refine ma_iconst dX12_outside_39 ?_
  refine ma_rcmp_ne 44 dX12_outside_40 rfl (by constructor <;> omega) (by decide) (fun c40 => ?_) (fun c40 => absurd c40 (by omega))
  refine ma_iload dX12_outside_44 rfl ?_
  refine ma_iconst dX12_outside_46 ?_
  refine ma_kdiv dX12_outside_47 (by constructor <;> omega) (by constructor <;> omega) ?_
  rw [show (4 * jy + fy) / 4 = jy by omega]
  refine ma_istoreN dX12_outside_48 (by decide) rfl ?_
  refine ma_iload dX12_outside_50 rfl ?_
  refine ma_bipush dX12_outside_52 ?_
  refine ma_kmod dX12_outside_54 (by constructor <;> omega) (by constructor <;> omega) ?_
  rw [cp.2.2]
  refine ma_istoreN dX12_outside_55 (by decide) rfl ?_
  refine ma_iload dX12_outside_57 rfl ?_
  refine ma_bipush dX12_outside_59 ?_
  refine ma_kdiv dX12_outside_61 (by constructor <;> omega) (by constructor <;> omega) ?_
  rw [cp.2.1]
  refine ma_istoreN dX12_outside_62 (by decide) rfl ?_
  refine ma_aload_n dX12_outside_64 rfl ?_
  refine ma_iload dX12_outside_65 rfl ?_
  refine ma_cV [_] dX12_outside_67 wX12_goingAs lX12_387 iX12_goingAs sX12_goingAs rfl (by first | exact ma_up_s _ _ _ | exact (ma_up_n (by decide)).trans (ma_up_s _ _ _) | exact (ma_up_n (by first | decide | omega)).trans ((ma_up_n (by first | decide | omega)).trans (by assumption))) (Nat.le_of_ble_eq_true rfl) ?_
  refine c_X12_goingAs ((ma_up_n (by decide)).trans ((ma_up_n (by decide)).trans hM)) ((ma_up_n (by decide)).trans ((ma_up_n (by decide)).trans h92)) hgm (by omega) hgo (by unfold rg; omega) (fun i' b0 b1 b2 => ?_) (fun bn => ?_)
  · exact absurd b2 (hgn i' b0 b1)
  · -- stays
    refine ma_istoreN dX12_outside_70 (by decide) rfl ?_
    refine ma_iload dX12_outside_72 rfl ?_
    refine ma_iconst dX12_outside_74 ?_
    refine ma_rcmp_ne 88 dX12_outside_75 rfl (by decide) (by decide) (fun c75 => absurd c75 (by decide)) (fun c75 => ?_)
    refine ma_iload dX12_outside_78 rfl ?_
    refine ma_iload dX12_outside_80 rfl ?_
    refine ma_cS [_, _] dX12_outside_82 wX12_image lX12_124 tX12_image (Nat.le_of_ble_eq_true rfl) ?_
    refine c_X12_image hp f0 ?_
    refine ma_goto 111 dX12_outside_85 rfl ?_
    refine ma_istoreN dX12_outside_111 (by decide) rfl ?_
    refine ma_iload dX12_outside_113 rfl ?_
    refine ma_iconst dX12_outside_115 ?_
    refine ma_rcmp_ne 129 dX12_outside_116 rfl (by decide) (by decide) (fun c116 => absurd c116 (by decide)) (fun c116 => ?_)
    refine ma_aload_n dX12_outside_119 rfl ?_
    refine ma_getf dX12_outside_120 fX12_75 (by first | exact ma_up_s _ _ _ | exact (ma_up_n (by decide)).trans (ma_up_s _ _ _) | exact (ma_up_n (by first | decide | omega)).trans ((ma_up_n (by first | decide | omega)).trans (by assumption))) (by rfl) ?_
    refine ma_iload dX12_outside_123 rfl ?_
    refine ma_iald dX12_outside_125 (by first | exact ma_up_s _ _ _ | exact (ma_up_n (by decide)).trans (ma_up_s _ _ _) | exact (ma_up_n (by first | decide | omega)).trans ((ma_up_n (by first | decide | omega)).trans (by assumption))) (by omega) (by omega) (by omega) ?_
    refine ma_goto 154 dX12_outside_126 rfl ?_
    refine ma_istoreN dX12_outside_154 (by decide) rfl ?_
    refine ma_iconst dX12_outside_156 ?_
    refine ma_istoreN dX12_outside_157 (by decide) rfl ?_
    refine l_X12_outS (q := q) hM h93 h94 (by constructor <;> omega) (by constructor <;> omega) fy0 hp hLi (hL jy jy0.1 jy0.2) hq eq1 hl (fun V' x14 hV' => ?_) 5 0 V _ (by omega) (by omega) (by omega) (fun k' a0 a1 => by omega)
    refine ma_aload_n dX12_outside_260 rfl ?_
    refine ma_aload_n dX12_outside_261 rfl ?_
    refine ma_getf dX12_outside_262 fX12_42 (by first | exact ma_up_s _ _ _ | exact (ma_up_n (by decide)).trans (ma_up_s _ _ _) | exact (ma_up_n (by first | decide | omega)).trans ((ma_up_n (by first | decide | omega)).trans (by assumption))) (by rfl) ?_
    refine ma_iconst dX12_outside_265 ?_
    refine ma_iald dX12_outside_266 (by first | exact ma_up_s _ _ _ | exact (ma_up_n (by decide)).trans (ma_up_s _ _ _) | exact (ma_up_n (by first | decide | omega)).trans ((ma_up_n (by first | decide | omega)).trans (by assumption))) (by omega) (by omega) (by omega) ?_
    refine ma_aload_n dX12_outside_267 rfl ?_
    refine ma_getf dX12_outside_268 fX12_42 (by first | exact ma_up_s _ _ _ | exact (ma_up_n (by decide)).trans (ma_up_s _ _ _) | exact (ma_up_n (by first | decide | omega)).trans ((ma_up_n (by first | decide | omega)).trans (by assumption))) (by rfl) ?_
    refine ma_iconst dX12_outside_271 ?_
    refine ma_iald dX12_outside_272 (by first | exact ma_up_s _ _ _ | exact (ma_up_n (by decide)).trans (ma_up_s _ _ _) | exact (ma_up_n (by first | decide | omega)).trans ((ma_up_n (by first | decide | omega)).trans (by assumption))) (by omega) (by omega) (by omega) ?_
    refine ma_aload_n dX12_outside_273 rfl ?_
    refine ma_getf dX12_outside_274 fX12_42 (by first | exact ma_up_s _ _ _ | exact (ma_up_n (by decide)).trans (ma_up_s _ _ _) | exact (ma_up_n (by first | decide | omega)).trans ((ma_up_n (by first | decide | omega)).trans (by assumption))) (by rfl) ?_
    refine ma_iconst dX12_outside_277 ?_
    refine ma_iald dX12_outside_278 (by first | exact ma_up_s _ _ _ | exact (ma_up_n (by decide)).trans (ma_up_s _ _ _) | exact (ma_up_n (by first | decide | omega)).trans ((ma_up_n (by first | decide | omega)).trans (by assumption))) (by omega) (by omega) (by omega) ?_
    refine ma_cV [_, _, _] dX12_outside_279 wX12_permOf lX12_158 iX12_permOf sX12_permOf rfl (by first | exact ma_up_s _ _ _ | exact (ma_up_n (by decide)).trans (ma_up_s _ _ _) | exact (ma_up_n (by first | decide | omega)).trans ((ma_up_n (by first | decide | omega)).trans (by assumption))) (Nat.le_of_ble_eq_true rfl) ?_
    refine c_X12_permOf ((ma_up_n (by decide)).trans ((ma_up_n (by decide)).trans hM)) ((ma_up_n (by decide)).trans ((ma_up_n (by decide)).trans h77)) hf hq (hV' 0 (by omega) (by omega)) (hV' 1 (by omega) (by omega)) (hV' 2 (by omega) (by omega)) ?_
    refine ma_istoreN dX12_outside_282 (by decide) rfl ?_
    refine ma_aload_n dX12_outside_284 rfl ?_
    refine ma_getf dX12_outside_285 fX12_78 (by first | exact ma_up_s _ _ _ | exact (ma_up_n (by decide)).trans (ma_up_s _ _ _) | exact (ma_up_n (by first | decide | omega)).trans ((ma_up_n (by first | decide | omega)).trans (by assumption))) (by rfl) ?_
    refine ma_iload_n dX12_outside_288 rfl ?_
    refine ma_iload dX12_outside_289 rfl ?_
    refine ma_iadd dX12_outside_291 ?_
    refine ma_iload dX12_outside_292 rfl ?_
    refine ma_iconst dX12_outside_294 ?_
    refine ma_kmod dX12_outside_295 (by constructor <;> omega) (by constructor <;> omega) ?_
    rw [show (4 * jy + fy) % 4 = fy by omega]
    refine ma_bipush dX12_outside_296 ?_
    refine ma_iload dX12_outside_298 rfl ?_
    refine ma_imul dX12_outside_300 ?_
    refine ma_iload dX12_outside_301 rfl ?_
    refine ma_iadd dX12_outside_303 ?_
    refine ma_cS [_, _, _, _] dX12_outside_304 wX12_put lX12_138 tX12_put (Nat.le_of_ble_eq_true rfl) ?_
    refine c_X12_put (ma_up_s _ _ _) (by constructor <;> omega) fy0 ?_
    rw [ma_up_up]
    refine ma_iload dX12_outside_307 rfl ?_
    refine ma_iconst dX12_outside_309 ?_
    refine ma_rcmp_ne 337 dX12_outside_310 rfl (by decide) (by decide) (fun c310 => absurd c310 (by decide)) (fun c310 => ?_)
    refine ma_aload_n dX12_outside_313 rfl ?_
    refine ma_getf dX12_outside_314 fX12_78 (by first | exact ma_up_s _ _ _ | exact (ma_up_n (by decide)).trans (ma_up_s _ _ _) | exact (ma_up_n (by first | decide | omega)).trans ((ma_up_n (by first | decide | omega)).trans (by assumption))) (by rfl) ?_
    refine ma_iload dX12_outside_317 rfl ?_
    refine ma_iload dX12_outside_319 rfl ?_
    refine ma_bipush dX12_outside_321 ?_
    refine ma_iload_n dX12_outside_323 rfl ?_
    refine ma_iload dX12_outside_324 rfl ?_
    refine ma_iadd dX12_outside_326 ?_
    refine ma_imul dX12_outside_327 ?_
    refine ma_iload dX12_outside_328 rfl ?_
    refine ma_cS [_] dX12_outside_330 wX12_inverse lX12_142 tX12_inverse (Nat.le_of_ble_eq_true rfl) ?_
    refine c_X12_inverse hq ?_
    refine ma_iadd dX12_outside_333 ?_
    refine ma_cS [_, _, _, _] dX12_outside_334 wX12_put lX12_138 tX12_put (Nat.le_of_ble_eq_true rfl) ?_
    refine c_X12_put (ma_up_s _ _ _) (by constructor <;> omega) wf ?_
    rw [ma_up_up]
    exact ma_vret dX12_outside_337 rfl (K V')
set_option maxHeartbeats 2000000 in
theorem c_outG {h : ma_H} {a nx d : Nat} {s i f ku gm cm g : Int} {go gl cl cu MV Aa TH V pf : Int → Int} {Q : Option ma_V → ma_H → Nat → Prop} {I : Nat → Int} {jy fy q io jo fo ko : Int} (hM : h 73 = co 12 (mo I)) (h77 : h 77 = ci 64 pf) (hf : PB pf) (h92 : h 92 = ci 4 go) (h93 : h 93 = ci 16 gl) (h94 : h 94 = ci 16 cl) (h95 : h 95 = ci 8 MV) (ha : h a = ci 33 Aa) (na : a ≠ 84 ∧ a ≠ 96) (hgm : I 32 = gm) (hcm : I 34 = cm) (gm0 : 1 ≤ gm ∧ gm ≤ 4) (cm0 : 1 ≤ cm ∧ cm ≤ 4) (hgo : ∀ i, 0 ≤ i → i < gm → 0 ≤ go i ∧ go i < 8) (hL : ∀ j, 0 ≤ j → j < cm → LT cl j (cu j)) (hLi : LT gl i ku) (i0 : 0 ≤ i ∧ i < gm) (f0 : 0 ≤ f ∧ f < 4) (s0 : 0 ≤ s ∧ s + cm ≤ 8) (jy0 : 0 ≤ jy ∧ jy < cm) (fy0 : 0 ≤ fy ∧ fy < 4) (hm : mk5 (cu jy) (cl (4 * jy + fy)) = mk5 ku (gl (4 * i + f))) (hu : ∀ j' f', 0 ≤ j' → j' < cm → 0 ≤ f' → f' < 4 → mk5 (cu j') (cl (4 * j' + f')) = mk5 ku (gl (4 * i + f)) → j' = jy ∧ f' = fy) (hA : Aa (1 + 4 * go i + f) = cv g) (g0 : 0 ≤ g ∧ g < 256 ∧ g % 32 < 24) (io0 : 0 ≤ io ∧ io < gm) (hio : ∀ i', 0 ≤ i' → i' < gm → (go i' = g / 32 ↔ i' = io)) (hLo : LT gl io ko) (jo0 : 0 ≤ jo ∧ jo < cm) (fo0 : 0 ≤ fo ∧ fo < 4) (hm2 : mk5 (cu jo) (cl (4 * jo + fo)) = mk5 ko (gl (4 * io + im (g % 32) f))) (hu2 : ∀ j' f', 0 ≤ j' → j' < cm → 0 ≤ f' → f' < 4 → mk5 (cu j') (cl (4 * j' + f')) = mk5 ko (gl (4 * io + im (g % 32) f)) → j' = jo ∧ f' = fo) (hq : 0 ≤ q ∧ q < 24) (eq1 : im q fy = fo) (hl : ∀ c, 0 ≤ c → c < 4 → c ≠ fy → ∃ e, 0 ≤ e ∧ e < 4 ∧ gl (4 * i + e) = cl (4 * jy + c) ∧ cl (4 * jo + im q c) = gl (4 * io + im (g % 32) e)) (K : ∀ V', Q none (ma_up (ma_up h 84 (ci 4 V')) 96 (ci 33 (uf TH (1 + 4 * (s + jy) + fy) (24 * (s + jo) + q)))) nx) : ma_Ct mX12_outside (d + 2) 0 0 [vr 73, vr a, vi s, vi i, vi f] (ma_up (ma_up h 84 (ci 4 V)) 96 (ci 33 TH)) nx Q := by
  have cp := cv_p g0.1 g0.2.2
  have hp : 0 ≤ g % 32 ∧ g % 32 < 24 := ⟨by omega, g0.2.2⟩
  have wf := im_in hp.1 hp.2 f0.1 f0.2
  have hcb : cv g < 192 := by omega
  refine ma_Ct.of (by decide +kernel) (Nat.le_of_ble_eq_true rfl) ?_
  refine ma_aload_n dX12_outside_0 rfl ?_
  refine ma_aload_n dX12_outside_1 rfl ?_
  refine ma_getf dX12_outside_2 fX12_69 (by first | exact ma_up_s _ _ _ | exact (ma_up_n (by decide)).trans (ma_up_s _ _ _) | exact (ma_up_n (by first | decide | omega)).trans ((ma_up_n (by first | decide | omega)).trans (by assumption))) (by rfl) ?_
  refine ma_iload_n dX12_outside_5 rfl ?_
  refine ma_iload dX12_outside_6 rfl ?_
  refine ma_cS [_, _, _] dX12_outside_8 wX12_labelsOf lX12_384 tX12_labelsOf (Nat.le_of_ble_eq_true rfl) ?_
  refine c_X12_labelsOf ((ma_up_n (by decide)).trans ((ma_up_n (by decide)).trans h93)) hLi (by constructor <;> omega) f0 ?_
  have mb := mk5_b hLi f0.1 f0.2
  refine ma_iconst dX12_outside_11 ?_
  refine ma_cV [_, _] dX12_outside_12 wX12_faceWith lX12_396 iX12_faceWith sX12_faceWith rfl (by first | exact ma_up_s _ _ _ | exact (ma_up_n (by decide)).trans (ma_up_s _ _ _) | exact (ma_up_n (by first | decide | omega)).trans ((ma_up_n (by first | decide | omega)).trans (by assumption))) (Nat.le_of_ble_eq_true rfl) ?_
  refine c_fW1 ((ma_up_n (by decide)).trans ((ma_up_n (by decide)).trans hM)) ((ma_up_n (by decide)).trans ((ma_up_n (by decide)).trans h94)) hcm (by omega) hL (by unfold rg; omega) (by unfold rg; omega) jy0 fy0 (by omega) hm hu ?_
  refine ma_istoreN dX12_outside_15 (by decide) rfl ?_
  refine ma_aload_n dX12_outside_17 rfl ?_
  refine ma_aload_n dX12_outside_18 rfl ?_
  refine ma_getf dX12_outside_19 fX12_66 (by first | exact ma_up_s _ _ _ | exact (ma_up_n (by decide)).trans (ma_up_s _ _ _) | exact (ma_up_n (by first | decide | omega)).trans ((ma_up_n (by first | decide | omega)).trans (by assumption))) (by rfl) ?_
  refine ma_iload_n dX12_outside_22 rfl ?_
  refine ma_iald dX12_outside_23 (by first | exact ma_up_s _ _ _ | exact (ma_up_n (by decide)).trans (ma_up_s _ _ _) | exact (ma_up_n (by first | decide | omega)).trans ((ma_up_n (by first | decide | omega)).trans (by assumption))) (by omega) (by omega) (by omega) ?_
  refine ma_iload dX12_outside_24 rfl ?_
  refine ma_cS [_, _, _] dX12_outside_26 wX12_glue lX12_150 tX12_glue (Nat.le_of_ble_eq_true rfl) ?_
  refine c_X12_glue ((ma_up_n na.2).trans ((ma_up_n na.1).trans ha)) (by have := hgo i i0.1 i0.2; constructor <;> omega) f0 ?_
  rw [hA]
  refine ma_istoreN dX12_outside_29 (by decide) rfl ?_
  refine ma_iload dX12_outside_31 rfl ?_
  refine ma_iconst dX12_outside_33 ?_
  refine ma_rcmp_eq 43 dX12_outside_34 rfl (by constructor <;> omega) (by decide) (fun c34 => absurd c34 (by omega)) (fun c34 => ?_)
  refine ma_iload dX12_outside_37 rfl ?_
  refine ma_iconst dX12_outside_39 ?_
  refine ma_rcmp_ne 44 dX12_outside_40 rfl (by constructor <;> omega) (by decide) (fun c40 => ?_) (fun c40 => absurd c40 (by omega))
  refine ma_iload dX12_outside_44 rfl ?_
  refine ma_iconst dX12_outside_46 ?_
  refine ma_kdiv dX12_outside_47 (by constructor <;> omega) (by constructor <;> omega) ?_
  rw [show (4 * jy + fy) / 4 = jy by omega]
  refine ma_istoreN dX12_outside_48 (by decide) rfl ?_
  refine ma_iload dX12_outside_50 rfl ?_
  refine ma_bipush dX12_outside_52 ?_
  refine ma_kmod dX12_outside_54 (by constructor <;> omega) (by constructor <;> omega) ?_
  rw [cp.2.2]
  refine ma_istoreN dX12_outside_55 (by decide) rfl ?_
  refine ma_iload dX12_outside_57 rfl ?_
  refine ma_bipush dX12_outside_59 ?_
  refine ma_kdiv dX12_outside_61 (by constructor <;> omega) (by constructor <;> omega) ?_
  rw [cp.2.1]
  refine ma_istoreN dX12_outside_62 (by decide) rfl ?_
  refine ma_aload_n dX12_outside_64 rfl ?_
  refine ma_iload dX12_outside_65 rfl ?_
  refine ma_cV [_] dX12_outside_67 wX12_goingAs lX12_387 iX12_goingAs sX12_goingAs rfl (by first | exact ma_up_s _ _ _ | exact (ma_up_n (by decide)).trans (ma_up_s _ _ _) | exact (ma_up_n (by first | decide | omega)).trans ((ma_up_n (by first | decide | omega)).trans (by assumption))) (Nat.le_of_ble_eq_true rfl) ?_
  refine c_X12_goingAs ((ma_up_n (by decide)).trans ((ma_up_n (by decide)).trans hM)) ((ma_up_n (by decide)).trans ((ma_up_n (by decide)).trans h92)) hgm (by omega) hgo (by unfold rg; omega) (fun i' b0 b1 b2 => ?_) (fun bn => ?_)
  · -- goes
    rw [(hio i' b0 b1).mp b2]
    refine ma_istoreN dX12_outside_70 (by decide) rfl ?_
    refine ma_iload dX12_outside_72 rfl ?_
    refine ma_iconst dX12_outside_74 ?_
    refine ma_rcmp_ne 88 dX12_outside_75 rfl (by constructor <;> omega) (by decide) (fun c75 => ?_) (fun c75 => absurd c75 (by omega))
    refine ma_aload_n dX12_outside_88 rfl ?_
    refine ma_aload_n dX12_outside_89 rfl ?_
    refine ma_getf dX12_outside_90 fX12_69 (by first | exact ma_up_s _ _ _ | exact (ma_up_n (by decide)).trans (ma_up_s _ _ _) | exact (ma_up_n (by first | decide | omega)).trans ((ma_up_n (by first | decide | omega)).trans (by assumption))) (by rfl) ?_
    refine ma_iload dX12_outside_93 rfl ?_
    refine ma_iload dX12_outside_95 rfl ?_
    refine ma_iload dX12_outside_97 rfl ?_
    refine ma_cS [_, _] dX12_outside_99 wX12_image lX12_124 tX12_image (Nat.le_of_ble_eq_true rfl) ?_
    refine c_X12_image hp f0 ?_
    refine ma_cS [_, _, _] dX12_outside_102 wX12_labelsOf lX12_384 tX12_labelsOf (Nat.le_of_ble_eq_true rfl) ?_
    refine c_X12_labelsOf ((ma_up_n (by decide)).trans ((ma_up_n (by decide)).trans h93)) hLo (by constructor <;> omega) wf ?_
    have mb2 := mk5_b hLo wf.1 wf.2
    refine ma_iconst dX12_outside_105 ?_
    refine ma_cV [_, _] dX12_outside_106 wX12_faceWith lX12_396 iX12_faceWith sX12_faceWith rfl (by first | exact ma_up_s _ _ _ | exact (ma_up_n (by decide)).trans (ma_up_s _ _ _) | exact (ma_up_n (by first | decide | omega)).trans ((ma_up_n (by first | decide | omega)).trans (by assumption))) (Nat.le_of_ble_eq_true rfl) ?_
    refine c_fW1 ((ma_up_n (by decide)).trans ((ma_up_n (by decide)).trans hM)) ((ma_up_n (by decide)).trans ((ma_up_n (by decide)).trans h94)) hcm (by omega) hL (by unfold rg; omega) (by unfold rg; omega) jo0 fo0 (by omega) hm2 hu2 ?_
    refine ma_iconst dX12_outside_109 ?_
    refine ma_kmod dX12_outside_110 (by constructor <;> omega) (by constructor <;> omega) ?_
    rw [show (4 * jo + fo) % 4 = fo by omega]
    refine ma_istoreN dX12_outside_111 (by decide) rfl ?_
    refine ma_iload dX12_outside_113 rfl ?_
    refine ma_iconst dX12_outside_115 ?_
    refine ma_rcmp_ne 129 dX12_outside_116 rfl (by constructor <;> omega) (by decide) (fun c116 => ?_) (fun c116 => absurd c116 (by omega))
    refine ma_iload_n dX12_outside_129 rfl ?_
    refine ma_aload_n dX12_outside_130 rfl ?_
    refine ma_aload_n dX12_outside_131 rfl ?_
    refine ma_getf dX12_outside_132 fX12_69 (by first | exact ma_up_s _ _ _ | exact (ma_up_n (by decide)).trans (ma_up_s _ _ _) | exact (ma_up_n (by first | decide | omega)).trans ((ma_up_n (by first | decide | omega)).trans (by assumption))) (by rfl) ?_
    refine ma_iload dX12_outside_135 rfl ?_
    refine ma_iload dX12_outside_137 rfl ?_
    refine ma_iload dX12_outside_139 rfl ?_
    refine ma_cS [_, _] dX12_outside_141 wX12_image lX12_124 tX12_image (Nat.le_of_ble_eq_true rfl) ?_
    refine c_X12_image hp f0 ?_
    refine ma_cS [_, _, _] dX12_outside_144 wX12_labelsOf lX12_384 tX12_labelsOf (Nat.le_of_ble_eq_true rfl) ?_
    refine c_X12_labelsOf ((ma_up_n (by decide)).trans ((ma_up_n (by decide)).trans h93)) hLo (by constructor <;> omega) wf ?_
    refine ma_iconst dX12_outside_147 ?_
    refine ma_cV [_, _] dX12_outside_148 wX12_faceWith lX12_396 iX12_faceWith sX12_faceWith rfl (by first | exact ma_up_s _ _ _ | exact (ma_up_n (by decide)).trans (ma_up_s _ _ _) | exact (ma_up_n (by first | decide | omega)).trans ((ma_up_n (by first | decide | omega)).trans (by assumption))) (Nat.le_of_ble_eq_true rfl) ?_
    refine c_fW1 ((ma_up_n (by decide)).trans ((ma_up_n (by decide)).trans hM)) ((ma_up_n (by decide)).trans ((ma_up_n (by decide)).trans h94)) hcm (by omega) hL (by unfold rg; omega) (by unfold rg; omega) jo0 fo0 (by omega) hm2 hu2 ?_
    refine ma_iconst dX12_outside_151 ?_
    refine ma_kdiv dX12_outside_152 (by constructor <;> omega) (by constructor <;> omega) ?_
    rw [show (4 * jo + fo) / 4 = jo by omega]
    refine ma_iadd dX12_outside_153 ?_
    refine ma_istoreN dX12_outside_154 (by decide) rfl ?_
    refine ma_iconst dX12_outside_156 ?_
    refine ma_istoreN dX12_outside_157 (by decide) rfl ?_
    refine l_X12_outG (q := q) hM h93 h94 (by constructor <;> omega) (by constructor <;> omega) fy0 hp hLi (hL jy jy0.1 jy0.2) hq eq1 (by constructor <;> omega) (by constructor <;> omega) hLo (hL jo jo0.1 jo0.2) hl (fun V' x14 hV' => ?_) 5 0 V _ (by omega) (by omega) (by omega) (fun k' a0 a1 => by omega)
    refine ma_aload_n dX12_outside_260 rfl ?_
    refine ma_aload_n dX12_outside_261 rfl ?_
    refine ma_getf dX12_outside_262 fX12_42 (by first | exact ma_up_s _ _ _ | exact (ma_up_n (by decide)).trans (ma_up_s _ _ _) | exact (ma_up_n (by first | decide | omega)).trans ((ma_up_n (by first | decide | omega)).trans (by assumption))) (by rfl) ?_
    refine ma_iconst dX12_outside_265 ?_
    refine ma_iald dX12_outside_266 (by first | exact ma_up_s _ _ _ | exact (ma_up_n (by decide)).trans (ma_up_s _ _ _) | exact (ma_up_n (by first | decide | omega)).trans ((ma_up_n (by first | decide | omega)).trans (by assumption))) (by omega) (by omega) (by omega) ?_
    refine ma_aload_n dX12_outside_267 rfl ?_
    refine ma_getf dX12_outside_268 fX12_42 (by first | exact ma_up_s _ _ _ | exact (ma_up_n (by decide)).trans (ma_up_s _ _ _) | exact (ma_up_n (by first | decide | omega)).trans ((ma_up_n (by first | decide | omega)).trans (by assumption))) (by rfl) ?_
    refine ma_iconst dX12_outside_271 ?_
    refine ma_iald dX12_outside_272 (by first | exact ma_up_s _ _ _ | exact (ma_up_n (by decide)).trans (ma_up_s _ _ _) | exact (ma_up_n (by first | decide | omega)).trans ((ma_up_n (by first | decide | omega)).trans (by assumption))) (by omega) (by omega) (by omega) ?_
    refine ma_aload_n dX12_outside_273 rfl ?_
    refine ma_getf dX12_outside_274 fX12_42 (by first | exact ma_up_s _ _ _ | exact (ma_up_n (by decide)).trans (ma_up_s _ _ _) | exact (ma_up_n (by first | decide | omega)).trans ((ma_up_n (by first | decide | omega)).trans (by assumption))) (by rfl) ?_
    refine ma_iconst dX12_outside_277 ?_
    refine ma_iald dX12_outside_278 (by first | exact ma_up_s _ _ _ | exact (ma_up_n (by decide)).trans (ma_up_s _ _ _) | exact (ma_up_n (by first | decide | omega)).trans ((ma_up_n (by first | decide | omega)).trans (by assumption))) (by omega) (by omega) (by omega) ?_
    refine ma_cV [_, _, _] dX12_outside_279 wX12_permOf lX12_158 iX12_permOf sX12_permOf rfl (by first | exact ma_up_s _ _ _ | exact (ma_up_n (by decide)).trans (ma_up_s _ _ _) | exact (ma_up_n (by first | decide | omega)).trans ((ma_up_n (by first | decide | omega)).trans (by assumption))) (Nat.le_of_ble_eq_true rfl) ?_
    refine c_X12_permOf ((ma_up_n (by decide)).trans ((ma_up_n (by decide)).trans hM)) ((ma_up_n (by decide)).trans ((ma_up_n (by decide)).trans h77)) hf hq (hV' 0 (by omega) (by omega)) (hV' 1 (by omega) (by omega)) (hV' 2 (by omega) (by omega)) ?_
    refine ma_istoreN dX12_outside_282 (by decide) rfl ?_
    refine ma_aload_n dX12_outside_284 rfl ?_
    refine ma_getf dX12_outside_285 fX12_78 (by first | exact ma_up_s _ _ _ | exact (ma_up_n (by decide)).trans (ma_up_s _ _ _) | exact (ma_up_n (by first | decide | omega)).trans ((ma_up_n (by first | decide | omega)).trans (by assumption))) (by rfl) ?_
    refine ma_iload_n dX12_outside_288 rfl ?_
    refine ma_iload dX12_outside_289 rfl ?_
    refine ma_iadd dX12_outside_291 ?_
    refine ma_iload dX12_outside_292 rfl ?_
    refine ma_iconst dX12_outside_294 ?_
    refine ma_kmod dX12_outside_295 (by constructor <;> omega) (by constructor <;> omega) ?_
    rw [show (4 * jy + fy) % 4 = fy by omega]
    refine ma_bipush dX12_outside_296 ?_
    refine ma_iload dX12_outside_298 rfl ?_
    refine ma_imul dX12_outside_300 ?_
    refine ma_iload dX12_outside_301 rfl ?_
    refine ma_iadd dX12_outside_303 ?_
    refine ma_cS [_, _, _, _] dX12_outside_304 wX12_put lX12_138 tX12_put (Nat.le_of_ble_eq_true rfl) ?_
    refine c_X12_put (ma_up_s _ _ _) (by constructor <;> omega) fy0 ?_
    rw [ma_up_up]
    refine ma_iload dX12_outside_307 rfl ?_
    refine ma_iconst dX12_outside_309 ?_
    refine ma_rcmp_ne 337 dX12_outside_310 rfl (by constructor <;> omega) (by decide) (fun c310 => ?_) (fun c310 => absurd c310 (by omega))
    exact ma_vret dX12_outside_337 rfl (K V')
  · exact absurd ((hio io io0.1 io0.2).mpr rfl) (bn io io0.1 io0.2)
