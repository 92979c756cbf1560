/-! UNION-FIND: f the array, r the roots -/
def UF (N : Int) (f r : Int → Int) : Prop := ∀ k, 0 ≤ k → k < N → (0 ≤ f k ∧ f k ≤ k) ∧ (0 ≤ r k ∧ r k ≤ k) ∧ f (r k) = r k ∧ (f k = k → r k = k) ∧ r (f k) = r k
def JU (N : Int) (ok : Int → Prop) (nb key : Int → Int → Int) (f r : Int → Int) (K : Int) : Prop :=
  UF N f r ∧ (∀ c, CI ok nb c → ∀ k, 0 ≤ k → k < N → c (r k) = c k) ∧ (∀ x g, ok x → 0 ≤ g → g < 4 → 0 ≤ nb g x → key x g < K → r (nb g x) = r x) ∧ ∀ k, 0 ≤ k → k < N → ¬ ok k → r k = k
theorem ju_0 {N : Int} {ok : Int → Prop} {nb key : Int → Int → Int} {f : Int → Int} (hf : ∀ k, 0 ≤ k → k < N → f k = k) (hk : ∀ x g, ok x → 0 ≤ g → g < 4 → 0 ≤ key x g) : JU N ok nb key f (fun k => k) 0 := by
  refine ⟨fun k k0 k1 => ?_, fun c _ k _ _ => rfl, fun x g hx g0 g1 _ z => ?_, fun k _ _ _ => rfl⟩
  · have e := hf k k0 k1
    exact ⟨by omega, ⟨k0, Int.le_refl _⟩, e, fun _ => rfl, e⟩
  · have := hk x g hx g0 g1
    omega
theorem ju_skip {N : Int} {ok : Int → Prop} {nb key : Int → Int → Int} {f r : Int → Int} {K K' : Int} (h : JU N ok nb key f r K) (hs : ∀ x g, ok x → 0 ≤ g → g < 4 → 0 ≤ nb g x → K ≤ key x g → key x g < K' → False) : JU N ok nb key f r K' := by
  refine ⟨h.1, h.2.1, fun x g hx g0 g1 hn z => ?_, h.2.2.2⟩
  rcases Int.lt_or_le (key x g) K with y | y
  · exact h.2.2.1 x g hx g0 g1 hn y
  · exact (hs x g hx g0 g1 hn y z).elim
theorem ju_ok {N : Int} {ok : Int → Prop} {nb key : Int → Int → Int} {f r : Int → Int} {K : Int} (hN : NB N ok nb) (h : JU N ok nb key f r K) {x : Int} (hx : ok x) : ok (r x) := by
  have b := hN.1 x hx
  have e := h.2.1 (fun y => @ite _ (ok y) (Classical.propDecidable _) 1 0) (fun y g hy g0 g1 hn => by
    show @ite _ (ok (nb g y)) (Classical.propDecidable _) 1 0 = @ite _ (ok y) (Classical.propDecidable _) 1 0
    rw [if_pos hy, if_pos (hN.2 y g hy g0 g1 hn).1]) x b.1 b.2
  apply Classical.byContradiction
  intro z
  simp only [if_pos hx, if_neg z] at e
  omega
/-- two are one -/
def mxi (a b : Int) : Int := if a < b then b else a
def mni (a b : Int) : Int := if b < a then b else a
theorem mxi_p (a b : Int) : (mxi a b = a ∧ mni a b = b ∧ b ≤ a) ∨ (mxi a b = b ∧ mni a b = a ∧ a ≤ b) := by
  unfold mxi mni
  split <;> split <;> omega
theorem uf_unite {N : Int} {f r : Int → Int} {a b : Int} (h : UF N f r) (a0 : 0 ≤ a) (a1 : a < N) (b0 : 0 ≤ b) (b1 : b ≤ a) (ha : f a = a) (hb : f b = b) : UF N (uf f a b) (fun k => if r k = a then b else r k) := by
  intro k k0 k1
  obtain ⟨⟨f0, f1⟩, ⟨r0, r1⟩, h3, h4, h5⟩ := h k k0 k1
  have hb2 := h b b0 (by omega)
  have ra := (h a a0 a1).2.2.2.1 ha
  have rb := hb2.2.2.2.1 hb
  refine ⟨?_, ?_, ?_, ?_, ?_⟩
  · by_cases e : k = a
    · rw [e, uf_s]; omega
    · rw [uf_n e]; exact ⟨f0, f1⟩
  · show 0 ≤ (if r k = a then b else r k) ∧ (if r k = a then b else r k) ≤ k
    split <;> omega
  · show uf f a b (if r k = a then b else r k) = if r k = a then b else r k
    by_cases e : r k = a
    · rw [if_pos e]
      by_cases e2 : b = a
      · rw [e2, uf_s]
      · rw [uf_n e2]; exact hb
    · rw [if_neg e, uf_n e]; exact h3
  · intro e
    show (if r k = a then b else r k) = k
    by_cases e1 : k = a
    · rw [e1, uf_s] at e
      rw [e1, ra, if_pos rfl]; exact e
    · rw [uf_n e1] at e
      rw [h4 e, if_neg e1]
  · show (if r (uf f a b k) = a then b else r (uf f a b k)) = if r k = a then b else r k
    by_cases e1 : k = a
    · rw [e1, uf_s, rb, ra, if_pos rfl]
      split <;> rfl
    · rw [uf_n e1, h5]
theorem ju_add {N : Int} {ok : Int → Prop} {nb key : Int → Int → Int} {f r : Int → Int} {K x g : Int} (hN : NB N ok nb) (h : JU N ok nb key f r K) (hx : ok x) (g0 : 0 ≤ g) (g1 : g < 4) (hn : 0 ≤ nb g x) (hi : ∀ y e, ok y → 0 ≤ e → e < 4 → key y e < K + 1 → key y e < K ∨ (y = x ∧ e = g)) :
    ∃ r', JU N ok nb key (uf f (mxi (r x) (r (nb g x))) (mni (r x) (r (nb g x)))) r' (K + 1) := by
  have bx := hN.1 x hx
  have hy := (hN.2 x g hx g0 g1 hn).1
  have by' := hN.1 _ hy
  have ux := h.1 x bx.1 bx.2
  have uy := h.1 _ by'.1 by'.2
  have ox := ju_ok hN h hx
  have oy := ju_ok hN h hy
  have hm := mxi_p (r x) (r (nb g x))
  generalize ea : mxi (r x) (r (nb g x)) = a at hm ⊢
  generalize eb : mni (r x) (r (nb g x)) = b at hm ⊢
  have ha : f a = a := by rcases hm with ⟨z, -⟩ | ⟨z, -⟩ <;> rw [z]; exact ux.2.2.1; exact uy.2.2.1
  have hb : f b = b := by rcases hm with ⟨-, z, -⟩ | ⟨-, z, -⟩ <;> rw [z]; exact uy.2.2.1; exact ux.2.2.1
  have oa : ok a := by rcases hm with ⟨z, -⟩ | ⟨z, -⟩ <;> rw [z]; exact ox; exact oy
  have bnd : 0 ≤ a ∧ a < N ∧ 0 ≤ b ∧ b ≤ a := by
    have := ux.2.1
    have := uy.2.1
    rcases hm with ⟨z, w, u⟩ | ⟨z, w, u⟩ <;> omega
  have cab : ∀ c, CI ok nb c → c a = c b := by
    intro c hc
    have e1 := h.2.1 c hc x bx.1 bx.2
    have e2 := h.2.1 c hc _ by'.1 by'.2
    have e3 := hc x g hx g0 g1 hn
    rcases hm with ⟨z, w, -⟩ | ⟨z, w, -⟩ <;> rw [z, w, e1, e2, e3]
  refine ⟨fun k => if r k = a then b else r k, uf_unite h.1 bnd.1 bnd.2.1 bnd.2.2.1 bnd.2.2.2 ha hb, fun c hc k k0 k1 => ?_, fun y e hy' e0 e1 hn' hk => ?_, fun k k0 k1 hk => ?_⟩
  · show c (if r k = a then b else r k) = c k
    have := h.2.1 c hc k k0 k1
    by_cases z : r k = a
    · rw [if_pos z, ← cab c hc, ← z]; exact this
    · rw [if_neg z]; exact this
  · show (if r (nb e y) = a then b else r (nb e y)) = if r y = a then b else r y
    rcases hi y e hy' e0 e1 hk with z | ⟨z1, z2⟩
    · rw [h.2.2.1 y e hy' e0 e1 hn' z]
    · rw [z1, z2]
      rcases hm with ⟨z, w, -⟩ | ⟨z, w, -⟩
      · rw [← z, if_pos rfl]
        split
        · rfl
        · exact w.symm
      · rw [← z, if_pos rfl]
        split
        · rfl
        · exact w
  · show (if r k = a then b else r k) = k
    have e := h.2.2.2 k k0 k1 hk
    rw [e, if_neg (fun z => hk (by rw [z]; exact oa))]
theorem ju_rp {N : Int} {ok : Int → Prop} {nb key : Int → Int → Int} {f r : Int → Int} {K : Int} (hN : NB N ok nb) (h : JU N ok nb key f r K) (hK : ∀ x g, ok x → 0 ≤ g → g < 4 → key x g < K) : RP ok nb r := by
  refine ⟨fun x hx => ?_, fun x g hx g0 g1 hn => h.2.2.1 x g hx g0 g1 hn (hK x g hx g0 g1)⟩
  have b := hN.1 x hx
  have u := (h.1 x b.1 b.2).2.1
  exact ⟨u.1, u.2, fun c hc => h.2.1 c hc x b.1 b.2⟩
/-- roots laid up to k -/
def UC (N : Int) (f r C : Int → Int) (k : Int) : Prop := (∀ j, 0 ≤ j → j < k → C j = r j) ∧ ∀ j, k ≤ j → j < N → C j = f j
theorem uc_uf {N : Int} {f r C : Int → Int} {k : Int} (h : UF N f r) (hc : UC N f r C k) : UF N C r := by
  intro j j0 j1
  obtain ⟨⟨f0, f1⟩, ⟨r0, r1⟩, h3, h4, h5⟩ := h j j0 j1
  have hr := h (r j) r0 (by omega)
  have rr := hr.2.2.2.1 h3
  have er : C (r j) = r j := by
    rcases Int.lt_or_le (r j) k with z | z
    · rw [hc.1 _ r0 z]; exact rr
    · rw [hc.2 _ z (by omega)]; exact h3
  rcases Int.lt_or_le j k with z | z
  · rw [hc.1 j j0 z]
    exact ⟨⟨r0, r1⟩, ⟨r0, r1⟩, er, fun e => e, rr⟩
  · rw [hc.2 j z j1]
    exact ⟨⟨f0, f1⟩, ⟨r0, r1⟩, er, h4, h5⟩
theorem l_X12_root {h : ma_H} {a nx d n : Nat} {i : Int} {f r : Int → Int} {Q : Option ma_V → ma_H → Nat → Prop} (ha : h a = ci n f) (hU : UF n f r) (hn : n ≤ 1000) (K : Q (some (vi (r i))) h nx) :
    ∀ (m : Nat) (k : Int), 0 ≤ k → k < n → k < m → r k = r i → ma_J none mX12_root d 0 0 2 [some (vr a), some (vi i), some (vi k)] [] h nx Q := by
  intro m
  induction m with
  | zero => intro k k0 k1 k2 hr; omega
  | succ m ih =>
    intro k k0 k1 k2 hr
    refine ma_aload_n dX12_root_2 rfl ?_
    refine ma_iload_n dX12_root_3 rfl ?_
    refine ma_iald dX12_root_4 (by assumption) (by omega) (by omega) (by omega) ?_
    refine ma_iload_n dX12_root_5 rfl ?_
    refine ma_rcmp_eq 16 dX12_root_6 rfl (by have := hU k k0 k1; constructor <;> omega) (by constructor <;> omega) (fun c6 => ?_) (fun c6 => ?_)
    · -- 16
      refine ma_iload_n dX12_root_16 rfl ?_
      rw [show r i = k by rw [← hr]; exact (hU k k0 k1).2.2.2.1 c6] at K
      exact ma_iret dX12_root_17 rfl K
    · -- 9
      refine ma_aload_n dX12_root_9 rfl ?_
      refine ma_iload_n dX12_root_10 rfl ?_
      refine ma_iald dX12_root_11 (by assumption) (by omega) (by omega) (by omega) ?_
      refine ma_istore_nN dX12_root_12 (by decide) rfl ?_
      refine ma_goto 2 dX12_root_13 rfl ?_
      exact ih (f k) (by have := hU k k0 k1; omega) (by have := hU k k0 k1; omega) (by have := hU k k0 k1; omega) (by rw [(hU k k0 k1).2.2.2.2]; exact hr)
theorem c_X12_root {h : ma_H} {a nx d n : Nat} {i : Int} {f r : Int → Int} {Q : Option ma_V → ma_H → Nat → Prop} (ha : h a = ci n f) (hU : UF n f r) (hn : n ≤ 1000) (hi : 0 ≤ i ∧ i < n) (K : Q (some (vi (r i))) h nx) : ma_Ct mX12_root d 0 0 [vr a, vi i] h nx Q := by
  refine ma_Ct.of (by decide +kernel) (Nat.le_of_ble_eq_true rfl) ?_
  refine ma_iload_n dX12_root_0 rfl ?_
  refine ma_istore_nN dX12_root_1 (by decide) rfl ?_
  exact l_X12_root ha hU hn K (i + 1).toNat i hi.1 hi.2 (by omega) rfl
theorem c_X12_unite {h : ma_H} {a nx d n : Nat} {i j : Int} {f r : Int → Int} {Q : Option ma_V → ma_H → Nat → Prop} (ha : h a = ci n f) (hU : UF n f r) (hn : n ≤ 1000) (hi : 0 ≤ i ∧ i < n) (hj : 0 ≤ j ∧ j < n) (K : Q none (ma_up h a (ci n (uf f (mxi (r i) (r j)) (mni (r i) (r j))))) nx) : ma_Ct mX12_unite (d + 1) 0 0 [vr a, vi i, vi j] h nx Q := by
  have ui := hU i hi.1 hi.2
  have uj := hU j hj.1 hj.2
  have hm := mxi_p (r i) (r j)
  unfold mxi mni at K hm
  refine ma_Ct.of (by decide +kernel) (Nat.le_of_ble_eq_true rfl) ?_
  refine ma_aload_n dX12_unite_0 rfl ?_
  refine ma_iload_n dX12_unite_1 rfl ?_
  refine ma_cS [_, _] dX12_unite_2 wX12_root lX12_239 tX12_root (Nat.le_of_ble_eq_true rfl) ?_
  refine c_X12_root ha hU hn hi ?_
  refine ma_istore_nN dX12_unite_5 (by decide) rfl ?_
  refine ma_aload_n dX12_unite_6 rfl ?_
  refine ma_iload_n dX12_unite_7 rfl ?_
  refine ma_cS [_, _] dX12_unite_8 wX12_root lX12_239 tX12_root (Nat.le_of_ble_eq_true rfl) ?_
  refine c_X12_root ha hU hn hj ?_
  refine ma_istoreN dX12_unite_11 (by decide) rfl ?_
  refine ma_aload_n dX12_unite_13 rfl ?_
  refine ma_iload_n dX12_unite_14 rfl ?_
  refine ma_iload dX12_unite_15 rfl ?_
  refine ma_cS [_, _] dX12_unite_17 wJ9_max_7cf53 lX12_243 tJ9_max_7cf53 (Nat.le_of_ble_eq_true rfl) ?_
  refine c_J9_max_7cf53 (by constructor <;> omega) (by constructor <;> omega) ?_
  refine ma_iload_n dX12_unite_20 rfl ?_
  refine ma_iload dX12_unite_21 rfl ?_
  refine ma_cS [_, _] dX12_unite_23 wJ9_min_7cf53 lX12_248 tJ9_min_7cf53 (Nat.le_of_ble_eq_true rfl) ?_
  refine c_J9_min_7cf53 (by constructor <;> omega) (by constructor <;> omega) ?_
  refine ma_iast dX12_unite_26 (by assumption) (by omega) (by omega) (by omega) ?_
  exact ma_vret dX12_unite_27 rfl K
theorem c_X12_endAt {h : ma_H} {nx d : Nat} {t u v : Int} {Q : Option ma_V → ma_H → Nat → Prop} (K : Q (some (vi (16 * t + 4 * u + v))) h nx) : ma_Ct mX12_endAt d 0 0 [vi t, vi u, vi v] h nx Q := by
  refine ma_Ct.of (by decide +kernel) (Nat.le_of_ble_eq_true rfl) ?_
  refine ma_bipush dX12_endAt_0 ?_
  refine ma_iload_n dX12_endAt_2 rfl ?_
  refine ma_imul dX12_endAt_3 ?_
  refine ma_iconst dX12_endAt_4 ?_
  refine ma_iload_n dX12_endAt_5 rfl ?_
  refine ma_imul dX12_endAt_6 ?_
  refine ma_iadd dX12_endAt_7 ?_
  refine ma_iload_n dX12_endAt_8 rfl ?_
  refine ma_iadd dX12_endAt_9 ?_
  exact ma_iret dX12_endAt_10 rfl K
