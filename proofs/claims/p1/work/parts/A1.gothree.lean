theorem pn_s4 : ∀ p : Nat, p < 24 → ∀ n : Nat, n < 64 → (n / 16 = n / 4 % 4 ∨ n / 16 = n % 4 ∨ n / 4 % 4 = n % 4 ∨ im p (6 - ((n / 16 : Nat) : Int) - ((n / 4 % 4 : Nat) : Int) - ((n % 4 : Nat) : Int)) = 6 - im p ((n / 16 : Nat) : Int) - im p ((n / 4 % 4 : Nat) : Int) - im p ((n % 4 : Nat) : Int)) := by decide +kernel
/-- the fourth corner goes to the fourth -/
theorem im_s4 {p u v x : Int} (p0 : 0 ≤ p) (p1 : p < 24) (u0 : 0 ≤ u ∧ u < 4) (v0 : 0 ≤ v ∧ v < 4) (x0 : 0 ≤ x ∧ x < 4) (uv : u ≠ v) (ux : u ≠ x) (vx : v ≠ x) : im p (6 - u - v - x) = 6 - im p u - im p v - im p x := by
  have h := pn_s4 p.toNat (by omega) (16 * u.toNat + 4 * v.toNat + x.toNat) (by omega)
  have e1 : (16 * u.toNat + 4 * v.toNat + x.toNat) / 16 = u.toNat := by omega
  have e2 : (16 * u.toNat + 4 * v.toNat + x.toNat) / 4 % 4 = v.toNat := by omega
  have e3 : (16 * u.toNat + 4 * v.toNat + x.toNat) % 4 = x.toNat := by omega
  rw [e1, e2, e3, Int.toNat_of_nonneg p0, Int.toNat_of_nonneg u0.1, Int.toNat_of_nonneg v0.1, Int.toNat_of_nonneg x0.1] at h
  rcases h with h | h | h | h
  · omega
  · omega
  · omega
  · exact h
/-- the permutation that brings a, b, c to 0, 1, 2 -/
def pq (a b c : Int) : Int := ((((List.range 24).find? (fun (q : Nat) => im (q : Int) a == 0 && im (q : Int) b == 1 && im (q : Int) c == 2)).getD 0 : Nat) : Int)
theorem pn_pq : ∀ n : Nat, n < 64 → (n / 16 = n / 4 % 4 ∨ n / 16 = n % 4 ∨ n / 4 % 4 = n % 4 ∨ (0 ≤ pq ((n / 16 : Nat) : Int) ((n / 4 % 4 : Nat) : Int) ((n % 4 : Nat) : Int) ∧ pq ((n / 16 : Nat) : Int) ((n / 4 % 4 : Nat) : Int) ((n % 4 : Nat) : Int) < 24 ∧ im (pq ((n / 16 : Nat) : Int) ((n / 4 % 4 : Nat) : Int) ((n % 4 : Nat) : Int)) ((n / 16 : Nat) : Int) = 0 ∧ im (pq ((n / 16 : Nat) : Int) ((n / 4 % 4 : Nat) : Int) ((n % 4 : Nat) : Int)) ((n / 4 % 4 : Nat) : Int) = 1 ∧ im (pq ((n / 16 : Nat) : Int) ((n / 4 % 4 : Nat) : Int) ((n % 4 : Nat) : Int)) ((n % 4 : Nat) : Int) = 2)) := by decide +kernel
theorem pq_ok {u v x : Int} (u0 : 0 ≤ u ∧ u < 4) (v0 : 0 ≤ v ∧ v < 4) (x0 : 0 ≤ x ∧ x < 4) (uv : u ≠ v) (ux : u ≠ x) (vx : v ≠ x) : (0 ≤ pq u v x ∧ pq u v x < 24) ∧ im (pq u v x) u = 0 ∧ im (pq u v x) v = 1 ∧ im (pq u v x) x = 2 ∧ im (pq u v x) (6 - u - v - x) = 3 := by
  have h := pn_pq (16 * u.toNat + 4 * v.toNat + x.toNat) (by omega)
  have e1 : (16 * u.toNat + 4 * v.toNat + x.toNat) / 16 = u.toNat := by omega
  have e2 : (16 * u.toNat + 4 * v.toNat + x.toNat) / 4 % 4 = v.toNat := by omega
  have e3 : (16 * u.toNat + 4 * v.toNat + x.toNat) % 4 = x.toNat := by omega
  rw [e1, e2, e3, Int.toNat_of_nonneg u0.1, Int.toNat_of_nonneg v0.1, Int.toNat_of_nonneg x0.1] at h
  rcases h with h | h | h | ⟨h1, h2, h3, h4, h5⟩
  · omega
  · omega
  · omega
  · have s := im_s4 h1 h2 u0 v0 x0 uv ux vx
    refine ⟨⟨h1, h2⟩, h3, h4, h5, ?_⟩
    rw [s, h3, h4, h5]
    decide
def la3 (u v w c : Int) : Int := if c = u then 3 else if c = v then 4 else if c = w then 0 else 1
/-- four stores -/
def uf4 (L : Int → Int) (a b c e wa wb wc we : Int) : Int → Int := uf (uf (uf (uf L a wa) b wb) c wc) e we
theorem uf4_a {L : Int → Int} {a b c e wa wb wc we : Int} (ab : a ≠ b) (ac : a ≠ c) (ae : a ≠ e) : uf4 L a b c e wa wb wc we a = wa := by
  unfold uf4; rw [uf_n ae, uf_n ac, uf_n ab, uf_s]
theorem uf4_b {L : Int → Int} {a b c e wa wb wc we : Int} (bc : b ≠ c) (be : b ≠ e) : uf4 L a b c e wa wb wc we b = wb := by
  unfold uf4; rw [uf_n be, uf_n bc, uf_s]
theorem uf4_c {L : Int → Int} {a b c e wa wb wc we : Int} (ce : c ≠ e) : uf4 L a b c e wa wb wc we c = wc := by
  unfold uf4; rw [uf_n ce, uf_s]
theorem uf4_e {L : Int → Int} {a b c e wa wb wc we : Int} : uf4 L a b c e wa wb wc we e = we := uf_s _ _ _
/-- labels round an edge -/
theorem lb3 {L : Int → Int} {p u v x wu wv wx wy : Int} (p0 : 0 ≤ p ∧ p < 24) (u0 : 0 ≤ u ∧ u < 4) (v0 : 0 ≤ v ∧ v < 4) (x0 : 0 ≤ x ∧ x < 4) (uv : u ≠ v) (ux : u ≠ x) (vx : v ≠ x) {c : Int} (c0 : 0 ≤ c ∧ c < 4) : uf4 L (im p u) (im p v) (im p x) (6 - im p u - im p v - im p x) wu wv wx wy (im p c) = if c = u then wu else if c = v then wv else if c = x then wx else wy := by
  have ne : ∀ a b, 0 ≤ a ∧ a < 4 → 0 ≤ b ∧ b < 4 → a ≠ b → im p a ≠ im p b := fun a b ha hb n z => n (im_ij p0.1 p0.2 ha.1 ha.2 hb.1 hb.2 z)
  have s := im_s4 p0.1 p0.2 u0 v0 x0 uv ux vx
  have y0 : 0 ≤ 6 - u - v - x ∧ 6 - u - v - x < 4 := by omega
  have yu : u ≠ 6 - u - v - x := by omega
  have yv : v ≠ 6 - u - v - x := by omega
  have yx : x ≠ 6 - u - v - x := by omega
  rw [← s]
  by_cases h1 : c = u
  · rw [if_pos h1, h1, uf4_a (ne _ _ u0 v0 uv) (ne _ _ u0 x0 ux) (ne _ _ u0 y0 yu)]
  · by_cases h2 : c = v
    · rw [if_neg h1, if_pos h2, h2, uf4_b (ne _ _ v0 x0 vx) (ne _ _ v0 y0 yv)]
    · by_cases h3 : c = x
      · rw [if_neg h1, if_neg h2, if_pos h3, h3, uf4_c (ne _ _ x0 y0 yx)]
      · rw [if_neg h1, if_neg h2, if_neg h3, show c = 6 - u - v - x by omega, uf4_e]
theorem la3_ok {u v w : Int} (u0 : 0 ≤ u ∧ u < 4) (v0 : 0 ≤ v ∧ v < 4) (w0 : 0 ≤ w ∧ w < 4) (uv : u ≠ v) (uw : u ≠ w) (vw : v ≠ w) : (∀ c, 0 ≤ c → c < 4 → 0 ≤ la3 u v w c ∧ la3 u v w c < 5 ∧ la3 u v w c ≠ 2) ∧ (∀ c c', 0 ≤ c → c < 4 → 0 ≤ c' → c' < 4 → la3 u v w c = la3 u v w c' → c = c') ∧ ∀ b, 0 ≤ b → b < 5 → b ≠ 2 → ∃ c, 0 ≤ c ∧ c < 4 ∧ la3 u v w c = b := by
  have y0 : 0 ≤ 6 - u - v - w ∧ 6 - u - v - w < 4 := by omega
  have fo : ∀ c, 0 ≤ c → c < 4 → c = u ∨ c = v ∨ c = w ∨ c = 6 - u - v - w := fun c c0 c1 => by omega
  have hu : la3 u v w u = 3 := by unfold la3; rw [if_pos rfl]
  have hv : la3 u v w v = 4 := by unfold la3; rw [if_neg (Ne.symm uv), if_pos rfl]
  have hw : la3 u v w w = 0 := by unfold la3; rw [if_neg (Ne.symm uw), if_neg (Ne.symm vw), if_pos rfl]
  have hy : la3 u v w (6 - u - v - w) = 1 := by unfold la3; rw [if_neg (by omega), if_neg (by omega), if_neg (by omega)]
  refine ⟨fun c c0 c1 => ?_, fun c c' c0 c1 d0 d1 e => ?_, fun b b0 b1 b2 => ?_⟩
  · unfold la3
    split
    · decide
    · split
      · decide
      · split <;> decide
  · rcases fo c c0 c1 with z | z | z | z <;> rcases fo c' d0 d1 with z' | z' | z' | z' <;> first | exact z.trans z'.symm | (exfalso; rw [z, z'] at e; first | (rw [hu, hv] at e; omega) | (rw [hu, hw] at e; omega) | (rw [hu, hy] at e; omega) | (rw [hv, hu] at e; omega) | (rw [hv, hw] at e; omega) | (rw [hv, hy] at e; omega) | (rw [hw, hu] at e; omega) | (rw [hw, hv] at e; omega) | (rw [hw, hy] at e; omega) | (rw [hy, hu] at e; omega) | (rw [hy, hv] at e; omega) | (rw [hy, hw] at e; omega))
  · rcases (show b = 3 ∨ b = 4 ∨ b = 0 ∨ b = 1 by omega) with z | z | z | z
    · exact ⟨u, u0.1, u0.2, by rw [hu, z]⟩
    · exact ⟨v, v0.1, v0.2, by rw [hv, z]⟩
    · exact ⟨w, w0.1, w0.2, by rw [hw, z]⟩
    · exact ⟨6 - u - v - w, y0.1, y0.2, by rw [hy, z]⟩
theorem lcg_three {X : Int → Prop} {cl : Int → Int} {u v w : Int} (u0 : 0 ≤ u ∧ u < 4) (v0 : 0 ≤ v ∧ v < 4) (w0 : 0 ≤ w ∧ w < 4) (uv : u ≠ v) (uw : u ≠ w) (vw : v ≠ w) (hX : ∀ x, 0 ≤ x → x < 4 → (X x ↔ x ≠ u ∧ x ≠ v)) (c0 : cl 0 = 3) (c1 : cl 1 = 0) (c2 : cl 2 = 1) (c3 : cl 3 = 2) (c4 : cl 4 = 4) (c5 : cl 5 = 0) (c6 : cl 6 = 1) (c7 : cl 7 = 2) : LCG X cl 2 (la3 u v w) 2 (fun y => if y = u then 1 else 0) (fun y => if y = u then pq v w (6 - u - v - w) else pq u w (6 - u - v - w)) := by
  have y0 : 0 ≤ 6 - u - v - w ∧ 6 - u - v - w < 4 := by omega
  have P1 := pq_ok v0 w0 y0 vw (show v ≠ 6 - u - v - w by omega) (show w ≠ 6 - u - v - w by omega)
  have P2 := pq_ok u0 w0 y0 uw (show u ≠ 6 - u - v - w by omega) (show w ≠ 6 - u - v - w by omega)
  rw [show 6 - v - w - (6 - u - v - w) = u by omega] at P1
  rw [show 6 - u - w - (6 - u - v - w) = v by omega] at P2
  have fo : ∀ c, 0 ≤ c → c < 4 → c = u ∨ c = v ∨ c = w ∨ c = 6 - u - v - w := fun c c0 c1 => by omega
  have hu : la3 u v w u = 3 := by unfold la3; rw [if_pos rfl]
  have hv : la3 u v w v = 4 := by unfold la3; rw [if_neg (Ne.symm uv), if_pos rfl]
  have hw : la3 u v w w = 0 := by unfold la3; rw [if_neg (Ne.symm uw), if_neg (Ne.symm vw), if_pos rfl]
  have hy : la3 u v w (6 - u - v - w) = 1 := by unfold la3; rw [if_neg (by omega), if_neg (by omega), if_neg (by omega)]
  have ny : ∀ y, 0 ≤ y → y < 4 → ¬ X y → y = u ∨ y = v := fun y a b hh => Classical.byContradiction fun q => hh ((hX y a b).mpr ⟨fun w => q (Or.inl w), fun w => q (Or.inr w)⟩)
  refine ⟨by decide, fun y a b hh => ?_, fun y y' a b a' b' hh hh' e => ?_, fun j j0 j1 => ?_⟩
  · rcases ny y a b hh with z | z
    · subst z
      simp only [if_pos]
      refine ⟨by decide, by decide, P1.1, fun c d0 d1 => ?_⟩
      rcases fo c d0 d1 with z | z | z | z
      · rw [z, P1.2.2.2.2, if_pos rfl]; exact c7
      · rw [z, P1.2.1, if_neg (Ne.symm uv), hv]; exact c4
      · rw [z, P1.2.2.1, if_neg (Ne.symm uw), hw]; exact c5
      · rw [z, P1.2.2.2.1, if_neg (by omega), hy]; exact c6
    · subst z
      simp only [if_neg (Ne.symm uv)]
      refine ⟨by decide, by decide, P2.1, fun c d0 d1 => ?_⟩
      rcases fo c d0 d1 with z | z | z | z
      · rw [z, P2.2.1, if_neg uv, hu]; exact c0
      · rw [z, P2.2.2.2.2, if_pos rfl]; exact c3
      · rw [z, P2.2.2.1, if_neg (Ne.symm vw), hw]; exact c1
      · rw [z, P2.2.2.2.1, if_neg (by omega), hy]; exact c2
  · rcases ny y a b hh with z | z <;> rcases ny y' a' b' hh' with z' | z'
    · rw [z, z']
    · exfalso; simp only [if_pos z, if_neg (show ¬ y' = u by omega)] at e; omega
    · exfalso; simp only [if_pos z', if_neg (show ¬ y = u by omega)] at e; omega
    · rw [z, z']
  · rcases (show j = 0 ∨ j = 1 by omega) with z | z
    · exact ⟨v, v0.1, v0.2, fun q => ((hX v v0.1 v0.2).mp q).2 rfl, by simp only [if_neg (Ne.symm uv)]; exact z.symm⟩
    · exact ⟨u, u0.1, u0.2, fun q => ((hX u u0.1 u0.2).mp q).1 rfl, by simp only [if_pos]; exact z.symm⟩
set_option maxHeartbeats 2000000 in
theorem l_go3_91 {h : ma_H} {b nx d : Nat} {x u v ed : Int} {Q : Option ma_V → ma_H → Nat → Prop} {x10 x11 x12 x13 : Option ma_V} (u0 : 0 ≤ u ∧ u < 4) (v0 : 0 ≤ v ∧ v < 4) (KO : ∀ c, 0 ≤ c → c < 4 → c ≠ u → c ≠ v → ma_J none mX12_goThree (d + 4) 0 0 111 [some (vr 73), some (vr b), some (vi x), some (vi u), some (vi v), some (vi ed), some (vi x), some (vi u), some (vi v), some (vi c), x10, x11, x12, x13] [] h nx Q) :
    ∀ (m : Nat) (c : Int), (0 ≤ c) → (c ≤ 3 ∧ 4 - c < m) → (∀ c', 0 ≤ c' → c' < c → c' = u ∨ c' = v) → ma_J none mX12_goThree (d + 4) 0 0 91 [some (vr 73), some (vr b), some (vi x), some (vi u), some (vi v), some (vi ed), some (vi x), some (vi u), some (vi v), some (vi c), x10, x11, x12, x13] [] h nx Q := by
  intro m
  induction m with
  | zero => intro c c0 c1 hk; omega
  | succ m ih =>
    intro c c0 c1 hk
    refine ma_iload dX12_goThree_91 rfl ?_
    refine ma_iload dX12_goThree_93 rfl ?_
    refine ma_rcmp_eq 105 dX12_goThree_95 rfl (by constructor <;> omega) (by constructor <;> omega) (fun c95 => ?_) (fun c95 => ?_)
    · -- 105
      refine ma_iincN dX12_goThree_105 rfl (by decide) rfl ?_
      refine ma_goto 91 dX12_goThree_108 rfl ?_
      exact ih (c + 1) (by omega) ⟨by
            apply Classical.byContradiction
            intro z
            have h0 := hk 0 (by omega) (by omega)
            have h1 := hk 1 (by omega) (by omega)
            have h2 := hk 2 (by omega) (by omega)
            omega, by omega⟩ (fun c' a0 a1 => by
        rcases Int.lt_or_eq_of_le (show c' ≤ c by omega) with z | z
        · exact hk c' a0 z
        · omega)
    · -- 98
      refine ma_iload dX12_goThree_98 rfl ?_
      refine ma_iload dX12_goThree_100 rfl ?_
      refine ma_rcmp_ne 111 dX12_goThree_102 rfl (by constructor <;> omega) (by constructor <;> omega) (fun c102 => ?_) (fun c102 => ?_)
      · -- 111
        exact KO c c0 (by
          apply Classical.byContradiction
          intro z
          have h0 := hk 0 (by omega) (by omega)
          have h1 := hk 1 (by omega) (by omega)
          have h2 := hk 2 (by omega) (by omega)
          omega) (by omega) (by omega)
      · -- 105
        refine ma_iincN dX12_goThree_105 rfl (by decide) rfl ?_
        refine ma_goto 91 dX12_goThree_108 rfl ?_
        exact ih (c + 1) (by omega) ⟨by
            apply Classical.byContradiction
            intro z
            have h0 := hk 0 (by omega) (by omega)
            have h1 := hk 1 (by omega) (by omega)
            have h2 := hk 2 (by omega) (by omega)
            omega, by omega⟩ (fun c' a0 a1 => by
          rcases Int.lt_or_eq_of_le (show c' ≤ c by omega) with z | z
          · exact hk c' a0 z
          · omega)
set_option maxHeartbeats 2000000 in
theorem l_go3_s0 {h : ma_H} {b nx d : Nat} {t x u v ed T u' v' w : Int} {G Aa go gl LB : Int → Int} {Q : Option ma_V → ma_H → Nat → Prop} {I : Nat → Int} {x11 x12 x13 : Option ma_V} (hM : h 73 = co 12 (mo I)) (hgm : I 32 = 0) (h92 : h 92 = ci 4 go) (h93 : h 93 = ci 16 gl) (h97 : h 97 = ci 4 LB) (hb : h b = ci 33 Aa) (nb : mlen b = 0 ∧ b ≠ 77 ∧ b ≠ 73) (hG : VG t G) (hA : AG t G Aa) (hr : ∀ i, 0 ≤ i → i < 0 → 0 ≤ go i ∧ go i < 8) (T0 : 0 ≤ T ∧ T < t) (u0 : 0 ≤ u' ∧ u' < 4) (v0 : 0 ≤ v' ∧ v' < 4) (w0 : 0 ≤ w ∧ w < 4) (uv : u' ≠ v') (uw : u' ≠ w) (vw : v' ≠ w) (g : 0 ≤ G (4 * T + w)) (KF : (∃ i, 0 ≤ i ∧ i < 0 ∧ go i = T) → Q (some (vi (-2))) h nx) (KO : ∀ T' P' U' V' W' B', T' = G (4 * T + w) / 32 → P' = G (4 * T + w) % 32 → U' = im P' u' → V' = im P' v' → W' = im P' (6 - u' - v' - w) → B' = im P' w → (∀ i, 0 ≤ i → i < 0 → go i ≠ T) → ma_J none mX12_goThree (d + 4) 0 0 114 [some (vr 73), some (vr b), some (vi x), some (vi u), some (vi v), some (vi ed), some (vi T'), some (vi U'), some (vi V'), some (vi W'), some (vi (0 + 1)), some (vi (cv (G (4 * T + w)))), some (vi P'), some (vi B')] [] (ma_up (ma_up (ma_up (ma_up h 97 (ci 4 (uf4 LB u' v' w (6 - u' - v' - w) 3 4 0 1))) 92 (ci 4 (uf go 0 T))) 93 (ci 16 (uf (uf (uf (uf gl (4 * 0) ((uf4 LB u' v' w (6 - u' - v' - w) 3 4 0 1) 0)) (4 * 0 + 1) ((uf4 LB u' v' w (6 - u' - v' - w) 3 4 0 1) 1)) (4 * 0 + 2) ((uf4 LB u' v' w (6 - u' - v' - w) 3 4 0 1) 2)) (4 * 0 + 3) ((uf4 LB u' v' w (6 - u' - v' - w) 3 4 0 1) 3)))) 73 (co 12 (mo (iu I 32 (0 + 1))))) nx Q) :
    ma_J none mX12_goThree (d + 4) 0 0 114 [some (vr 73), some (vr b), some (vi x), some (vi u), some (vi v), some (vi ed), some (vi T), some (vi u'), some (vi v'), some (vi w), some (vi 0), x11, x12, x13] [] h nx Q := by
  have ht := hG.1
  have nbk := nb_k nb
  have pp := pt_pt hG (k := 4 * T + w) (by omega) (by omega) g
  have hpp : 0 ≤ G (4 * T + w) % 32 ∧ G (4 * T + w) % 32 < 24 := ⟨pp.2.2.2.2.1, pp.2.2.2.2.2.1⟩
  have cp := cv_p g pp.2.2.2.2.2.1
  have vb := vg_in hG (k := 4 * T + w) (by omega) (by omega)
  refine ma_iload dX12_goThree_114 rfl ?_
  refine ma_iconst dX12_goThree_116 ?_
  refine ma_rcmp_ge 280 dX12_goThree_117 rfl (by decide) (by decide) (fun c117 => absurd c117 (by decide)) (fun c117 => ?_)
  refine ma_aload_n dX12_goThree_120 rfl ?_
  refine ma_iload dX12_goThree_121 rfl ?_
  refine ma_cV [_] dX12_goThree_123 wX12_goingAs lX12_387 iX12_goingAs sX12_goingAs rfl (by first | assumption | exact ma_up_s _ _ _ | exact (ma_up_n (by decide)).trans (by assumption) | exact (ma_up_n (by decide)).trans (ma_up_s _ _ _) | exact (ma_up_n (by decide)).trans ((ma_up_n (by decide)).trans (ma_up_s _ _ _)) | exact (ma_up_n (by decide)).trans ((ma_up_n (by decide)).trans ((ma_up_n (by decide)).trans (ma_up_s _ _ _)))) (Nat.le_of_ble_eq_true rfl) ?_
  refine c_X12_goingAs hM h92 hgm (by decide) hr (by unfold rg; omega) (fun i b0 b1 b2 => ?_) (fun bn => ?_)
  · -- goes already
    refine ma_iconst dX12_goThree_126 ?_
    refine ma_rcmp_eq 133 dX12_goThree_127 rfl (by constructor <;> omega) (by decide) (fun c127 => absurd c127 (by omega)) (fun c127 => ?_)
    refine ma_bipush dX12_goThree_130 ?_
    exact ma_iret dX12_goThree_132 rfl (KF ⟨i, b0, b1, b2⟩)
  · -- new
    refine ma_iconst dX12_goThree_126 ?_
    refine ma_rcmp_eq 133 dX12_goThree_127 rfl (by decide) (by decide) (fun c127 => ?_) (fun c127 => absurd c127 (by decide))
    refine ma_aload_n dX12_goThree_133 rfl ?_
    refine ma_getf dX12_goThree_134 fX12_81 (by first | assumption | exact ma_up_s _ _ _ | exact (ma_up_n (by decide)).trans (by assumption) | exact (ma_up_n (by decide)).trans (ma_up_s _ _ _) | exact (ma_up_n (by decide)).trans ((ma_up_n (by decide)).trans (ma_up_s _ _ _)) | exact (ma_up_n (by decide)).trans ((ma_up_n (by decide)).trans ((ma_up_n (by decide)).trans (ma_up_s _ _ _)))) (by rfl) ?_
    refine ma_iload dX12_goThree_137 rfl ?_
    refine ma_iconst dX12_goThree_139 ?_
    refine ma_iast dX12_goThree_140 (by first | assumption | exact ma_up_s _ _ _ | exact (ma_up_n (by decide)).trans (by assumption) | exact (ma_up_n (by decide)).trans (ma_up_s _ _ _) | exact (ma_up_n (by decide)).trans ((ma_up_n (by decide)).trans (ma_up_s _ _ _)) | exact (ma_up_n (by decide)).trans ((ma_up_n (by decide)).trans ((ma_up_n (by decide)).trans (ma_up_s _ _ _)))) (by omega) (by omega) (by omega) ?_
    refine ma_aload_n dX12_goThree_141 rfl ?_
    refine ma_getf dX12_goThree_142 fX12_81 (by first | assumption | exact ma_up_s _ _ _ | exact (ma_up_n (by decide)).trans (by assumption) | exact (ma_up_n (by decide)).trans (ma_up_s _ _ _) | exact (ma_up_n (by decide)).trans ((ma_up_n (by decide)).trans (ma_up_s _ _ _)) | exact (ma_up_n (by decide)).trans ((ma_up_n (by decide)).trans ((ma_up_n (by decide)).trans (ma_up_s _ _ _)))) (by rfl) ?_
    refine ma_iload dX12_goThree_145 rfl ?_
    refine ma_iconst dX12_goThree_147 ?_
    refine ma_iast dX12_goThree_148 (by first | assumption | exact ma_up_s _ _ _ | exact (ma_up_n (by decide)).trans (by assumption) | exact (ma_up_n (by decide)).trans (ma_up_s _ _ _) | exact (ma_up_n (by decide)).trans ((ma_up_n (by decide)).trans (ma_up_s _ _ _)) | exact (ma_up_n (by decide)).trans ((ma_up_n (by decide)).trans ((ma_up_n (by decide)).trans (ma_up_s _ _ _)))) (by omega) (by omega) (by omega) ?_
    rw [ma_up_up]
    refine ma_aload_n dX12_goThree_149 rfl ?_
    refine ma_getf dX12_goThree_150 fX12_81 (by first | assumption | exact ma_up_s _ _ _ | exact (ma_up_n (by decide)).trans (by assumption) | exact (ma_up_n (by decide)).trans (ma_up_s _ _ _) | exact (ma_up_n (by decide)).trans ((ma_up_n (by decide)).trans (ma_up_s _ _ _)) | exact (ma_up_n (by decide)).trans ((ma_up_n (by decide)).trans ((ma_up_n (by decide)).trans (ma_up_s _ _ _)))) (by rfl) ?_
    refine ma_iload dX12_goThree_153 rfl ?_
    refine ma_iload dX12_goThree_155 rfl ?_
    refine ma_iast dX12_goThree_157 (by first | assumption | exact ma_up_s _ _ _ | exact (ma_up_n (by decide)).trans (by assumption) | exact (ma_up_n (by decide)).trans (ma_up_s _ _ _) | exact (ma_up_n (by decide)).trans ((ma_up_n (by decide)).trans (ma_up_s _ _ _)) | exact (ma_up_n (by decide)).trans ((ma_up_n (by decide)).trans ((ma_up_n (by decide)).trans (ma_up_s _ _ _)))) (by omega) (by omega) (by omega) ?_
    rw [ma_up_up]
    refine ma_aload_n dX12_goThree_158 rfl ?_
    refine ma_getf dX12_goThree_159 fX12_81 (by first | assumption | exact ma_up_s _ _ _ | exact (ma_up_n (by decide)).trans (by assumption) | exact (ma_up_n (by decide)).trans (ma_up_s _ _ _) | exact (ma_up_n (by decide)).trans ((ma_up_n (by decide)).trans (ma_up_s _ _ _)) | exact (ma_up_n (by decide)).trans ((ma_up_n (by decide)).trans ((ma_up_n (by decide)).trans (ma_up_s _ _ _)))) (by rfl) ?_
    refine ma_bipush dX12_goThree_162 ?_
    refine ma_iload dX12_goThree_164 rfl ?_
    refine ma_isub dX12_goThree_166 ?_
    refine ma_iload dX12_goThree_167 rfl ?_
    refine ma_isub dX12_goThree_169 ?_
    refine ma_iload dX12_goThree_170 rfl ?_
    refine ma_isub dX12_goThree_172 ?_
    refine ma_iload dX12_goThree_173 rfl ?_
    refine ma_iconst dX12_goThree_175 ?_
    refine ma_iadd dX12_goThree_176 ?_
    refine ma_iconst dX12_goThree_177 ?_
    refine ma_kmod dX12_goThree_178 (by decide) (by decide) ?_
    rw [show ((0 : Int) + 1) % 3 = 1 by decide]
    refine ma_iast dX12_goThree_179 (by first | assumption | exact ma_up_s _ _ _ | exact (ma_up_n (by decide)).trans (by assumption) | exact (ma_up_n (by decide)).trans (ma_up_s _ _ _) | exact (ma_up_n (by decide)).trans ((ma_up_n (by decide)).trans (ma_up_s _ _ _)) | exact (ma_up_n (by decide)).trans ((ma_up_n (by decide)).trans ((ma_up_n (by decide)).trans (ma_up_s _ _ _)))) (by omega) (by omega) (by omega) ?_
    rw [ma_up_up]
    refine ma_aload_n dX12_goThree_180 rfl ?_
    refine ma_iload dX12_goThree_181 rfl ?_
    refine ma_aload_n dX12_goThree_183 rfl ?_
    refine ma_getf dX12_goThree_184 fX12_81 (by first | assumption | exact ma_up_s _ _ _ | exact (ma_up_n (by decide)).trans (by assumption) | exact (ma_up_n (by decide)).trans (ma_up_s _ _ _) | exact (ma_up_n (by decide)).trans ((ma_up_n (by decide)).trans (ma_up_s _ _ _)) | exact (ma_up_n (by decide)).trans ((ma_up_n (by decide)).trans ((ma_up_n (by decide)).trans (ma_up_s _ _ _)))) (by rfl) ?_
    refine ma_iconst dX12_goThree_187 ?_
    refine ma_iald dX12_goThree_188 (by first | assumption | exact ma_up_s _ _ _ | exact (ma_up_n (by decide)).trans (by assumption) | exact (ma_up_n (by decide)).trans (ma_up_s _ _ _) | exact (ma_up_n (by decide)).trans ((ma_up_n (by decide)).trans (ma_up_s _ _ _)) | exact (ma_up_n (by decide)).trans ((ma_up_n (by decide)).trans ((ma_up_n (by decide)).trans (ma_up_s _ _ _)))) (by omega) (by omega) (by omega) ?_
    refine ma_aload_n dX12_goThree_189 rfl ?_
    refine ma_getf dX12_goThree_190 fX12_81 (by first | assumption | exact ma_up_s _ _ _ | exact (ma_up_n (by decide)).trans (by assumption) | exact (ma_up_n (by decide)).trans (ma_up_s _ _ _) | exact (ma_up_n (by decide)).trans ((ma_up_n (by decide)).trans (ma_up_s _ _ _)) | exact (ma_up_n (by decide)).trans ((ma_up_n (by decide)).trans ((ma_up_n (by decide)).trans (ma_up_s _ _ _)))) (by rfl) ?_
    refine ma_iconst dX12_goThree_193 ?_
    refine ma_iald dX12_goThree_194 (by first | assumption | exact ma_up_s _ _ _ | exact (ma_up_n (by decide)).trans (by assumption) | exact (ma_up_n (by decide)).trans (ma_up_s _ _ _) | exact (ma_up_n (by decide)).trans ((ma_up_n (by decide)).trans (ma_up_s _ _ _)) | exact (ma_up_n (by decide)).trans ((ma_up_n (by decide)).trans ((ma_up_n (by decide)).trans (ma_up_s _ _ _)))) (by omega) (by omega) (by omega) ?_
    refine ma_aload_n dX12_goThree_195 rfl ?_
    refine ma_getf dX12_goThree_196 fX12_81 (by first | assumption | exact ma_up_s _ _ _ | exact (ma_up_n (by decide)).trans (by assumption) | exact (ma_up_n (by decide)).trans (ma_up_s _ _ _) | exact (ma_up_n (by decide)).trans ((ma_up_n (by decide)).trans (ma_up_s _ _ _)) | exact (ma_up_n (by decide)).trans ((ma_up_n (by decide)).trans ((ma_up_n (by decide)).trans (ma_up_s _ _ _)))) (by rfl) ?_
    refine ma_iconst dX12_goThree_199 ?_
    refine ma_iald dX12_goThree_200 (by first | assumption | exact ma_up_s _ _ _ | exact (ma_up_n (by decide)).trans (by assumption) | exact (ma_up_n (by decide)).trans (ma_up_s _ _ _) | exact (ma_up_n (by decide)).trans ((ma_up_n (by decide)).trans (ma_up_s _ _ _)) | exact (ma_up_n (by decide)).trans ((ma_up_n (by decide)).trans ((ma_up_n (by decide)).trans (ma_up_s _ _ _)))) (by omega) (by omega) (by omega) ?_
    refine ma_aload_n dX12_goThree_201 rfl ?_
    refine ma_getf dX12_goThree_202 fX12_81 (by first | assumption | exact ma_up_s _ _ _ | exact (ma_up_n (by decide)).trans (by assumption) | exact (ma_up_n (by decide)).trans (ma_up_s _ _ _) | exact (ma_up_n (by decide)).trans ((ma_up_n (by decide)).trans (ma_up_s _ _ _)) | exact (ma_up_n (by decide)).trans ((ma_up_n (by decide)).trans ((ma_up_n (by decide)).trans (ma_up_s _ _ _)))) (by rfl) ?_
    refine ma_iconst dX12_goThree_205 ?_
    refine ma_iald dX12_goThree_206 (by first | assumption | exact ma_up_s _ _ _ | exact (ma_up_n (by decide)).trans (by assumption) | exact (ma_up_n (by decide)).trans (ma_up_s _ _ _) | exact (ma_up_n (by decide)).trans ((ma_up_n (by decide)).trans (ma_up_s _ _ _)) | exact (ma_up_n (by decide)).trans ((ma_up_n (by decide)).trans ((ma_up_n (by decide)).trans (ma_up_s _ _ _)))) (by omega) (by omega) (by omega) ?_
    refine ma_cV [_, _, _, _, _] dX12_goThree_207 wX12_goes lX12_405 iX12_goes sX12_goes rfl (by first | assumption | exact ma_up_s _ _ _ | exact (ma_up_n (by decide)).trans (by assumption) | exact (ma_up_n (by decide)).trans (ma_up_s _ _ _) | exact (ma_up_n (by decide)).trans ((ma_up_n (by decide)).trans (ma_up_s _ _ _)) | exact (ma_up_n (by decide)).trans ((ma_up_n (by decide)).trans ((ma_up_n (by decide)).trans (ma_up_s _ _ _)))) (Nat.le_of_ble_eq_true rfl) ?_
    refine c_X12_goes ((ma_up_n (by decide)).trans hM) ((ma_up_n (by decide)).trans h92) ((ma_up_n (by decide)).trans h93) (g := 0) hgm (by decide) ?_
    refine ma_aload_n dX12_goThree_210 rfl ?_
    refine ma_iload dX12_goThree_211 rfl ?_
    refine ma_iload dX12_goThree_213 rfl ?_
    refine ma_cS [_, _, _] dX12_goThree_215 wX12_glue lX12_150 tX12_glue (Nat.le_of_ble_eq_true rfl) ?_
    refine c_X12_glue ((ma_up_n (nbk 73 (by decide))).trans ((ma_up_n (nbk 93 (by decide))).trans ((ma_up_n (nbk 92 (by decide))).trans ((ma_up_n (nbk 97 (by decide))).trans hb)))) (by constructor <;> omega) w0 ?_
    rw [show 1 + 4 * T + w = 1 + (4 * T + w) by omega, hA.2 (4 * T + w) (by omega) (by omega)]
    refine ma_istoreN dX12_goThree_218 (by decide) rfl ?_
    refine ma_iload dX12_goThree_220 rfl ?_
    refine ma_bipush dX12_goThree_222 ?_
    refine ma_kmod dX12_goThree_224 (by constructor <;> omega) (by constructor <;> omega) ?_
    rw [cp.2.2]
    refine ma_istoreN dX12_goThree_225 (by decide) rfl ?_
    refine ma_iload dX12_goThree_227 rfl ?_
    refine ma_iload dX12_goThree_229 rfl ?_
    refine ma_cS [_, _] dX12_goThree_231 wX12_image lX12_124 tX12_image (Nat.le_of_ble_eq_true rfl) ?_
    refine c_X12_image hpp w0 ?_
    refine ma_istoreN dX12_goThree_234 (by decide) rfl ?_
    refine ma_iload dX12_goThree_236 rfl ?_
    refine ma_bipush dX12_goThree_238 ?_
    refine ma_kdiv dX12_goThree_240 (by constructor <;> omega) (by constructor <;> omega) ?_
    rw [cp.2.1]
    refine ma_istoreN dX12_goThree_241 (by decide) rfl ?_
    refine ma_iload dX12_goThree_243 rfl ?_
    refine ma_iload dX12_goThree_245 rfl ?_
    refine ma_cS [_, _] dX12_goThree_247 wX12_image lX12_124 tX12_image (Nat.le_of_ble_eq_true rfl) ?_
    refine c_X12_image hpp u0 ?_
    refine ma_istoreN dX12_goThree_250 (by decide) rfl ?_
    refine ma_iload dX12_goThree_252 rfl ?_
    refine ma_iload dX12_goThree_254 rfl ?_
    refine ma_cS [_, _] dX12_goThree_256 wX12_image lX12_124 tX12_image (Nat.le_of_ble_eq_true rfl) ?_
    refine c_X12_image hpp v0 ?_
    refine ma_istoreN dX12_goThree_259 (by decide) rfl ?_
    refine ma_bipush dX12_goThree_261 ?_
    refine ma_iload dX12_goThree_263 rfl ?_
    refine ma_isub dX12_goThree_265 ?_
    refine ma_iload dX12_goThree_266 rfl ?_
    refine ma_isub dX12_goThree_268 ?_
    refine ma_iload dX12_goThree_269 rfl ?_
    refine ma_isub dX12_goThree_271 ?_
    rw [← im_s4 pp.2.2.2.2.1 pp.2.2.2.2.2.1 u0 v0 w0 uv uw vw]
    refine ma_istoreN dX12_goThree_272 (by decide) rfl ?_
    refine ma_iincN dX12_goThree_274 rfl (by decide) rfl ?_
    refine ma_goto 114 dX12_goThree_277 rfl ?_
    exact KO _ _ _ _ _ _ rfl rfl rfl rfl rfl rfl bn
set_option maxHeartbeats 2000000 in
theorem l_go3_s1 {h : ma_H} {b nx d : Nat} {t x u v ed T u' v' w : Int} {G Aa go gl LB : Int → Int} {Q : Option ma_V → ma_H → Nat → Prop} {I : Nat → Int} {x11 x12 x13 : Option ma_V} (hM : h 73 = co 12 (mo I)) (hgm : I 32 = 1) (h92 : h 92 = ci 4 go) (h93 : h 93 = ci 16 gl) (h97 : h 97 = ci 4 LB) (hb : h b = ci 33 Aa) (nb : mlen b = 0 ∧ b ≠ 77 ∧ b ≠ 73) (hG : VG t G) (hA : AG t G Aa) (hr : ∀ i, 0 ≤ i → i < 1 → 0 ≤ go i ∧ go i < 8) (T0 : 0 ≤ T ∧ T < t) (u0 : 0 ≤ u' ∧ u' < 4) (v0 : 0 ≤ v' ∧ v' < 4) (w0 : 0 ≤ w ∧ w < 4) (uv : u' ≠ v') (uw : u' ≠ w) (vw : v' ≠ w) (g : 0 ≤ G (4 * T + w)) (KF : (∃ i, 0 ≤ i ∧ i < 1 ∧ go i = T) → Q (some (vi (-2))) h nx) (KO : ∀ T' P' U' V' W' B', T' = G (4 * T + w) / 32 → P' = G (4 * T + w) % 32 → U' = im P' u' → V' = im P' v' → W' = im P' (6 - u' - v' - w) → B' = im P' w → (∀ i, 0 ≤ i → i < 1 → go i ≠ T) → ma_J none mX12_goThree (d + 4) 0 0 114 [some (vr 73), some (vr b), some (vi x), some (vi u), some (vi v), some (vi ed), some (vi T'), some (vi U'), some (vi V'), some (vi W'), some (vi (1 + 1)), some (vi (cv (G (4 * T + w)))), some (vi P'), some (vi B')] [] (ma_up (ma_up (ma_up (ma_up h 97 (ci 4 (uf4 LB u' v' w (6 - u' - v' - w) 3 4 1 2))) 92 (ci 4 (uf go 1 T))) 93 (ci 16 (uf (uf (uf (uf gl (4 * 1) ((uf4 LB u' v' w (6 - u' - v' - w) 3 4 1 2) 0)) (4 * 1 + 1) ((uf4 LB u' v' w (6 - u' - v' - w) 3 4 1 2) 1)) (4 * 1 + 2) ((uf4 LB u' v' w (6 - u' - v' - w) 3 4 1 2) 2)) (4 * 1 + 3) ((uf4 LB u' v' w (6 - u' - v' - w) 3 4 1 2) 3)))) 73 (co 12 (mo (iu I 32 (1 + 1))))) nx Q) :
    ma_J none mX12_goThree (d + 4) 0 0 114 [some (vr 73), some (vr b), some (vi x), some (vi u), some (vi v), some (vi ed), some (vi T), some (vi u'), some (vi v'), some (vi w), some (vi 1), x11, x12, x13] [] h nx Q := by
  have ht := hG.1
  have nbk := nb_k nb
  have pp := pt_pt hG (k := 4 * T + w) (by omega) (by omega) g
  have hpp : 0 ≤ G (4 * T + w) % 32 ∧ G (4 * T + w) % 32 < 24 := ⟨pp.2.2.2.2.1, pp.2.2.2.2.2.1⟩
  have cp := cv_p g pp.2.2.2.2.2.1
  have vb := vg_in hG (k := 4 * T + w) (by omega) (by omega)
  refine ma_iload dX12_goThree_114 rfl ?_
  refine ma_iconst dX12_goThree_116 ?_
  refine ma_rcmp_ge 280 dX12_goThree_117 rfl (by decide) (by decide) (fun c117 => absurd c117 (by decide)) (fun c117 => ?_)
  refine ma_aload_n dX12_goThree_120 rfl ?_
  refine ma_iload dX12_goThree_121 rfl ?_
  refine ma_cV [_] dX12_goThree_123 wX12_goingAs lX12_387 iX12_goingAs sX12_goingAs rfl (by first | assumption | exact ma_up_s _ _ _ | exact (ma_up_n (by decide)).trans (by assumption) | exact (ma_up_n (by decide)).trans (ma_up_s _ _ _) | exact (ma_up_n (by decide)).trans ((ma_up_n (by decide)).trans (ma_up_s _ _ _)) | exact (ma_up_n (by decide)).trans ((ma_up_n (by decide)).trans ((ma_up_n (by decide)).trans (ma_up_s _ _ _)))) (Nat.le_of_ble_eq_true rfl) ?_
  refine c_X12_goingAs hM h92 hgm (by decide) hr (by unfold rg; omega) (fun i b0 b1 b2 => ?_) (fun bn => ?_)
  · -- goes already
    refine ma_iconst dX12_goThree_126 ?_
    refine ma_rcmp_eq 133 dX12_goThree_127 rfl (by constructor <;> omega) (by decide) (fun c127 => absurd c127 (by omega)) (fun c127 => ?_)
    refine ma_bipush dX12_goThree_130 ?_
    exact ma_iret dX12_goThree_132 rfl (KF ⟨i, b0, b1, b2⟩)
  · -- new
    refine ma_iconst dX12_goThree_126 ?_
    refine ma_rcmp_eq 133 dX12_goThree_127 rfl (by decide) (by decide) (fun c127 => ?_) (fun c127 => absurd c127 (by decide))
    refine ma_aload_n dX12_goThree_133 rfl ?_
    refine ma_getf dX12_goThree_134 fX12_81 (by first | assumption | exact ma_up_s _ _ _ | exact (ma_up_n (by decide)).trans (by assumption) | exact (ma_up_n (by decide)).trans (ma_up_s _ _ _) | exact (ma_up_n (by decide)).trans ((ma_up_n (by decide)).trans (ma_up_s _ _ _)) | exact (ma_up_n (by decide)).trans ((ma_up_n (by decide)).trans ((ma_up_n (by decide)).trans (ma_up_s _ _ _)))) (by rfl) ?_
    refine ma_iload dX12_goThree_137 rfl ?_
    refine ma_iconst dX12_goThree_139 ?_
    refine ma_iast dX12_goThree_140 (by first | assumption | exact ma_up_s _ _ _ | exact (ma_up_n (by decide)).trans (by assumption) | exact (ma_up_n (by decide)).trans (ma_up_s _ _ _) | exact (ma_up_n (by decide)).trans ((ma_up_n (by decide)).trans (ma_up_s _ _ _)) | exact (ma_up_n (by decide)).trans ((ma_up_n (by decide)).trans ((ma_up_n (by decide)).trans (ma_up_s _ _ _)))) (by omega) (by omega) (by omega) ?_
    refine ma_aload_n dX12_goThree_141 rfl ?_
    refine ma_getf dX12_goThree_142 fX12_81 (by first | assumption | exact ma_up_s _ _ _ | exact (ma_up_n (by decide)).trans (by assumption) | exact (ma_up_n (by decide)).trans (ma_up_s _ _ _) | exact (ma_up_n (by decide)).trans ((ma_up_n (by decide)).trans (ma_up_s _ _ _)) | exact (ma_up_n (by decide)).trans ((ma_up_n (by decide)).trans ((ma_up_n (by decide)).trans (ma_up_s _ _ _)))) (by rfl) ?_
    refine ma_iload dX12_goThree_145 rfl ?_
    refine ma_iconst dX12_goThree_147 ?_
    refine ma_iast dX12_goThree_148 (by first | assumption | exact ma_up_s _ _ _ | exact (ma_up_n (by decide)).trans (by assumption) | exact (ma_up_n (by decide)).trans (ma_up_s _ _ _) | exact (ma_up_n (by decide)).trans ((ma_up_n (by decide)).trans (ma_up_s _ _ _)) | exact (ma_up_n (by decide)).trans ((ma_up_n (by decide)).trans ((ma_up_n (by decide)).trans (ma_up_s _ _ _)))) (by omega) (by omega) (by omega) ?_
    rw [ma_up_up]
    refine ma_aload_n dX12_goThree_149 rfl ?_
    refine ma_getf dX12_goThree_150 fX12_81 (by first | assumption | exact ma_up_s _ _ _ | exact (ma_up_n (by decide)).trans (by assumption) | exact (ma_up_n (by decide)).trans (ma_up_s _ _ _) | exact (ma_up_n (by decide)).trans ((ma_up_n (by decide)).trans (ma_up_s _ _ _)) | exact (ma_up_n (by decide)).trans ((ma_up_n (by decide)).trans ((ma_up_n (by decide)).trans (ma_up_s _ _ _)))) (by rfl) ?_
    refine ma_iload dX12_goThree_153 rfl ?_
    refine ma_iload dX12_goThree_155 rfl ?_
    refine ma_iast dX12_goThree_157 (by first | assumption | exact ma_up_s _ _ _ | exact (ma_up_n (by decide)).trans (by assumption) | exact (ma_up_n (by decide)).trans (ma_up_s _ _ _) | exact (ma_up_n (by decide)).trans ((ma_up_n (by decide)).trans (ma_up_s _ _ _)) | exact (ma_up_n (by decide)).trans ((ma_up_n (by decide)).trans ((ma_up_n (by decide)).trans (ma_up_s _ _ _)))) (by omega) (by omega) (by omega) ?_
    rw [ma_up_up]
    refine ma_aload_n dX12_goThree_158 rfl ?_
    refine ma_getf dX12_goThree_159 fX12_81 (by first | assumption | exact ma_up_s _ _ _ | exact (ma_up_n (by decide)).trans (by assumption) | exact (ma_up_n (by decide)).trans (ma_up_s _ _ _) | exact (ma_up_n (by decide)).trans ((ma_up_n (by decide)).trans (ma_up_s _ _ _)) | exact (ma_up_n (by decide)).trans ((ma_up_n (by decide)).trans ((ma_up_n (by decide)).trans (ma_up_s _ _ _)))) (by rfl) ?_
    refine ma_bipush dX12_goThree_162 ?_
    refine ma_iload dX12_goThree_164 rfl ?_
    refine ma_isub dX12_goThree_166 ?_
    refine ma_iload dX12_goThree_167 rfl ?_
    refine ma_isub dX12_goThree_169 ?_
    refine ma_iload dX12_goThree_170 rfl ?_
    refine ma_isub dX12_goThree_172 ?_
    refine ma_iload dX12_goThree_173 rfl ?_
    refine ma_iconst dX12_goThree_175 ?_
    refine ma_iadd dX12_goThree_176 ?_
    refine ma_iconst dX12_goThree_177 ?_
    refine ma_kmod dX12_goThree_178 (by decide) (by decide) ?_
    rw [show ((1 : Int) + 1) % 3 = 2 by decide]
    refine ma_iast dX12_goThree_179 (by first | assumption | exact ma_up_s _ _ _ | exact (ma_up_n (by decide)).trans (by assumption) | exact (ma_up_n (by decide)).trans (ma_up_s _ _ _) | exact (ma_up_n (by decide)).trans ((ma_up_n (by decide)).trans (ma_up_s _ _ _)) | exact (ma_up_n (by decide)).trans ((ma_up_n (by decide)).trans ((ma_up_n (by decide)).trans (ma_up_s _ _ _)))) (by omega) (by omega) (by omega) ?_
    rw [ma_up_up]
    refine ma_aload_n dX12_goThree_180 rfl ?_
    refine ma_iload dX12_goThree_181 rfl ?_
    refine ma_aload_n dX12_goThree_183 rfl ?_
    refine ma_getf dX12_goThree_184 fX12_81 (by first | assumption | exact ma_up_s _ _ _ | exact (ma_up_n (by decide)).trans (by assumption) | exact (ma_up_n (by decide)).trans (ma_up_s _ _ _) | exact (ma_up_n (by decide)).trans ((ma_up_n (by decide)).trans (ma_up_s _ _ _)) | exact (ma_up_n (by decide)).trans ((ma_up_n (by decide)).trans ((ma_up_n (by decide)).trans (ma_up_s _ _ _)))) (by rfl) ?_
    refine ma_iconst dX12_goThree_187 ?_
    refine ma_iald dX12_goThree_188 (by first | assumption | exact ma_up_s _ _ _ | exact (ma_up_n (by decide)).trans (by assumption) | exact (ma_up_n (by decide)).trans (ma_up_s _ _ _) | exact (ma_up_n (by decide)).trans ((ma_up_n (by decide)).trans (ma_up_s _ _ _)) | exact (ma_up_n (by decide)).trans ((ma_up_n (by decide)).trans ((ma_up_n (by decide)).trans (ma_up_s _ _ _)))) (by omega) (by omega) (by omega) ?_
    refine ma_aload_n dX12_goThree_189 rfl ?_
    refine ma_getf dX12_goThree_190 fX12_81 (by first | assumption | exact ma_up_s _ _ _ | exact (ma_up_n (by decide)).trans (by assumption) | exact (ma_up_n (by decide)).trans (ma_up_s _ _ _) | exact (ma_up_n (by decide)).trans ((ma_up_n (by decide)).trans (ma_up_s _ _ _)) | exact (ma_up_n (by decide)).trans ((ma_up_n (by decide)).trans ((ma_up_n (by decide)).trans (ma_up_s _ _ _)))) (by rfl) ?_
    refine ma_iconst dX12_goThree_193 ?_
    refine ma_iald dX12_goThree_194 (by first | assumption | exact ma_up_s _ _ _ | exact (ma_up_n (by decide)).trans (by assumption) | exact (ma_up_n (by decide)).trans (ma_up_s _ _ _) | exact (ma_up_n (by decide)).trans ((ma_up_n (by decide)).trans (ma_up_s _ _ _)) | exact (ma_up_n (by decide)).trans ((ma_up_n (by decide)).trans ((ma_up_n (by decide)).trans (ma_up_s _ _ _)))) (by omega) (by omega) (by omega) ?_
    refine ma_aload_n dX12_goThree_195 rfl ?_
    refine ma_getf dX12_goThree_196 fX12_81 (by first | assumption | exact ma_up_s _ _ _ | exact (ma_up_n (by decide)).trans (by assumption) | exact (ma_up_n (by decide)).trans (ma_up_s _ _ _) | exact (ma_up_n (by decide)).trans ((ma_up_n (by decide)).trans (ma_up_s _ _ _)) | exact (ma_up_n (by decide)).trans ((ma_up_n (by decide)).trans ((ma_up_n (by decide)).trans (ma_up_s _ _ _)))) (by rfl) ?_
    refine ma_iconst dX12_goThree_199 ?_
    refine ma_iald dX12_goThree_200 (by first | assumption | exact ma_up_s _ _ _ | exact (ma_up_n (by decide)).trans (by assumption) | exact (ma_up_n (by decide)).trans (ma_up_s _ _ _) | exact (ma_up_n (by decide)).trans ((ma_up_n (by decide)).trans (ma_up_s _ _ _)) | exact (ma_up_n (by decide)).trans ((ma_up_n (by decide)).trans ((ma_up_n (by decide)).trans (ma_up_s _ _ _)))) (by omega) (by omega) (by omega) ?_
    refine ma_aload_n dX12_goThree_201 rfl ?_
    refine ma_getf dX12_goThree_202 fX12_81 (by first | assumption | exact ma_up_s _ _ _ | exact (ma_up_n (by decide)).trans (by assumption) | exact (ma_up_n (by decide)).trans (ma_up_s _ _ _) | exact (ma_up_n (by decide)).trans ((ma_up_n (by decide)).trans (ma_up_s _ _ _)) | exact (ma_up_n (by decide)).trans ((ma_up_n (by decide)).trans ((ma_up_n (by decide)).trans (ma_up_s _ _ _)))) (by rfl) ?_
    refine ma_iconst dX12_goThree_205 ?_
    refine ma_iald dX12_goThree_206 (by first | assumption | exact ma_up_s _ _ _ | exact (ma_up_n (by decide)).trans (by assumption) | exact (ma_up_n (by decide)).trans (ma_up_s _ _ _) | exact (ma_up_n (by decide)).trans ((ma_up_n (by decide)).trans (ma_up_s _ _ _)) | exact (ma_up_n (by decide)).trans ((ma_up_n (by decide)).trans ((ma_up_n (by decide)).trans (ma_up_s _ _ _)))) (by omega) (by omega) (by omega) ?_
    refine ma_cV [_, _, _, _, _] dX12_goThree_207 wX12_goes lX12_405 iX12_goes sX12_goes rfl (by first | assumption | exact ma_up_s _ _ _ | exact (ma_up_n (by decide)).trans (by assumption) | exact (ma_up_n (by decide)).trans (ma_up_s _ _ _) | exact (ma_up_n (by decide)).trans ((ma_up_n (by decide)).trans (ma_up_s _ _ _)) | exact (ma_up_n (by decide)).trans ((ma_up_n (by decide)).trans ((ma_up_n (by decide)).trans (ma_up_s _ _ _)))) (Nat.le_of_ble_eq_true rfl) ?_
    refine c_X12_goes ((ma_up_n (by decide)).trans hM) ((ma_up_n (by decide)).trans h92) ((ma_up_n (by decide)).trans h93) (g := 1) hgm (by decide) ?_
    refine ma_aload_n dX12_goThree_210 rfl ?_
    refine ma_iload dX12_goThree_211 rfl ?_
    refine ma_iload dX12_goThree_213 rfl ?_
    refine ma_cS [_, _, _] dX12_goThree_215 wX12_glue lX12_150 tX12_glue (Nat.le_of_ble_eq_true rfl) ?_
    refine c_X12_glue ((ma_up_n (nbk 73 (by decide))).trans ((ma_up_n (nbk 93 (by decide))).trans ((ma_up_n (nbk 92 (by decide))).trans ((ma_up_n (nbk 97 (by decide))).trans hb)))) (by constructor <;> omega) w0 ?_
    rw [show 1 + 4 * T + w = 1 + (4 * T + w) by omega, hA.2 (4 * T + w) (by omega) (by omega)]
    refine ma_istoreN dX12_goThree_218 (by decide) rfl ?_
    refine ma_iload dX12_goThree_220 rfl ?_
    refine ma_bipush dX12_goThree_222 ?_
    refine ma_kmod dX12_goThree_224 (by constructor <;> omega) (by constructor <;> omega) ?_
    rw [cp.2.2]
    refine ma_istoreN dX12_goThree_225 (by decide) rfl ?_
    refine ma_iload dX12_goThree_227 rfl ?_
    refine ma_iload dX12_goThree_229 rfl ?_
    refine ma_cS [_, _] dX12_goThree_231 wX12_image lX12_124 tX12_image (Nat.le_of_ble_eq_true rfl) ?_
    refine c_X12_image hpp w0 ?_
    refine ma_istoreN dX12_goThree_234 (by decide) rfl ?_
    refine ma_iload dX12_goThree_236 rfl ?_
    refine ma_bipush dX12_goThree_238 ?_
    refine ma_kdiv dX12_goThree_240 (by constructor <;> omega) (by constructor <;> omega) ?_
    rw [cp.2.1]
    refine ma_istoreN dX12_goThree_241 (by decide) rfl ?_
    refine ma_iload dX12_goThree_243 rfl ?_
    refine ma_iload dX12_goThree_245 rfl ?_
    refine ma_cS [_, _] dX12_goThree_247 wX12_image lX12_124 tX12_image (Nat.le_of_ble_eq_true rfl) ?_
    refine c_X12_image hpp u0 ?_
    refine ma_istoreN dX12_goThree_250 (by decide) rfl ?_
    refine ma_iload dX12_goThree_252 rfl ?_
    refine ma_iload dX12_goThree_254 rfl ?_
    refine ma_cS [_, _] dX12_goThree_256 wX12_image lX12_124 tX12_image (Nat.le_of_ble_eq_true rfl) ?_
    refine c_X12_image hpp v0 ?_
    refine ma_istoreN dX12_goThree_259 (by decide) rfl ?_
    refine ma_bipush dX12_goThree_261 ?_
    refine ma_iload dX12_goThree_263 rfl ?_
    refine ma_isub dX12_goThree_265 ?_
    refine ma_iload dX12_goThree_266 rfl ?_
    refine ma_isub dX12_goThree_268 ?_
    refine ma_iload dX12_goThree_269 rfl ?_
    refine ma_isub dX12_goThree_271 ?_
    rw [← im_s4 pp.2.2.2.2.1 pp.2.2.2.2.2.1 u0 v0 w0 uv uw vw]
    refine ma_istoreN dX12_goThree_272 (by decide) rfl ?_
    refine ma_iincN dX12_goThree_274 rfl (by decide) rfl ?_
    refine ma_goto 114 dX12_goThree_277 rfl ?_
    exact KO _ _ _ _ _ _ rfl rfl rfl rfl rfl rfl bn
set_option maxHeartbeats 2000000 in
theorem l_go3_s2 {h : ma_H} {b nx d : Nat} {t x u v ed T u' v' w : Int} {G Aa go gl LB : Int → Int} {Q : Option ma_V → ma_H → Nat → Prop} {I : Nat → Int} {x11 x12 x13 : Option ma_V} (hM : h 73 = co 12 (mo I)) (hgm : I 32 = 2) (h92 : h 92 = ci 4 go) (h93 : h 93 = ci 16 gl) (h97 : h 97 = ci 4 LB) (hb : h b = ci 33 Aa) (nb : mlen b = 0 ∧ b ≠ 77 ∧ b ≠ 73) (hG : VG t G) (hA : AG t G Aa) (hr : ∀ i, 0 ≤ i → i < 2 → 0 ≤ go i ∧ go i < 8) (T0 : 0 ≤ T ∧ T < t) (u0 : 0 ≤ u' ∧ u' < 4) (v0 : 0 ≤ v' ∧ v' < 4) (w0 : 0 ≤ w ∧ w < 4) (uv : u' ≠ v') (uw : u' ≠ w) (vw : v' ≠ w) (g : 0 ≤ G (4 * T + w)) (KF : (∃ i, 0 ≤ i ∧ i < 2 ∧ go i = T) → Q (some (vi (-2))) h nx) (KO : ∀ T' P' U' V' W' B', T' = G (4 * T + w) / 32 → P' = G (4 * T + w) % 32 → U' = im P' u' → V' = im P' v' → W' = im P' (6 - u' - v' - w) → B' = im P' w → (∀ i, 0 ≤ i → i < 2 → go i ≠ T) → ma_J none mX12_goThree (d + 4) 0 0 114 [some (vr 73), some (vr b), some (vi x), some (vi u), some (vi v), some (vi ed), some (vi T'), some (vi U'), some (vi V'), some (vi W'), some (vi (2 + 1)), some (vi (cv (G (4 * T + w)))), some (vi P'), some (vi B')] [] (ma_up (ma_up (ma_up (ma_up h 97 (ci 4 (uf4 LB u' v' w (6 - u' - v' - w) 3 4 2 0))) 92 (ci 4 (uf go 2 T))) 93 (ci 16 (uf (uf (uf (uf gl (4 * 2) ((uf4 LB u' v' w (6 - u' - v' - w) 3 4 2 0) 0)) (4 * 2 + 1) ((uf4 LB u' v' w (6 - u' - v' - w) 3 4 2 0) 1)) (4 * 2 + 2) ((uf4 LB u' v' w (6 - u' - v' - w) 3 4 2 0) 2)) (4 * 2 + 3) ((uf4 LB u' v' w (6 - u' - v' - w) 3 4 2 0) 3)))) 73 (co 12 (mo (iu I 32 (2 + 1))))) nx Q) :
    ma_J none mX12_goThree (d + 4) 0 0 114 [some (vr 73), some (vr b), some (vi x), some (vi u), some (vi v), some (vi ed), some (vi T), some (vi u'), some (vi v'), some (vi w), some (vi 2), x11, x12, x13] [] h nx Q := by
  have ht := hG.1
  have nbk := nb_k nb
  have pp := pt_pt hG (k := 4 * T + w) (by omega) (by omega) g
  have hpp : 0 ≤ G (4 * T + w) % 32 ∧ G (4 * T + w) % 32 < 24 := ⟨pp.2.2.2.2.1, pp.2.2.2.2.2.1⟩
  have cp := cv_p g pp.2.2.2.2.2.1
  have vb := vg_in hG (k := 4 * T + w) (by omega) (by omega)
  refine ma_iload dX12_goThree_114 rfl ?_
  refine ma_iconst dX12_goThree_116 ?_
  refine ma_rcmp_ge 280 dX12_goThree_117 rfl (by decide) (by decide) (fun c117 => absurd c117 (by decide)) (fun c117 => ?_)
  refine ma_aload_n dX12_goThree_120 rfl ?_
  refine ma_iload dX12_goThree_121 rfl ?_
  refine ma_cV [_] dX12_goThree_123 wX12_goingAs lX12_387 iX12_goingAs sX12_goingAs rfl (by first | assumption | exact ma_up_s _ _ _ | exact (ma_up_n (by decide)).trans (by assumption) | exact (ma_up_n (by decide)).trans (ma_up_s _ _ _) | exact (ma_up_n (by decide)).trans ((ma_up_n (by decide)).trans (ma_up_s _ _ _)) | exact (ma_up_n (by decide)).trans ((ma_up_n (by decide)).trans ((ma_up_n (by decide)).trans (ma_up_s _ _ _)))) (Nat.le_of_ble_eq_true rfl) ?_
  refine c_X12_goingAs hM h92 hgm (by decide) hr (by unfold rg; omega) (fun i b0 b1 b2 => ?_) (fun bn => ?_)
  · -- goes already
    refine ma_iconst dX12_goThree_126 ?_
    refine ma_rcmp_eq 133 dX12_goThree_127 rfl (by constructor <;> omega) (by decide) (fun c127 => absurd c127 (by omega)) (fun c127 => ?_)
    refine ma_bipush dX12_goThree_130 ?_
    exact ma_iret dX12_goThree_132 rfl (KF ⟨i, b0, b1, b2⟩)
  · -- new
    refine ma_iconst dX12_goThree_126 ?_
    refine ma_rcmp_eq 133 dX12_goThree_127 rfl (by decide) (by decide) (fun c127 => ?_) (fun c127 => absurd c127 (by decide))
    refine ma_aload_n dX12_goThree_133 rfl ?_
    refine ma_getf dX12_goThree_134 fX12_81 (by first | assumption | exact ma_up_s _ _ _ | exact (ma_up_n (by decide)).trans (by assumption) | exact (ma_up_n (by decide)).trans (ma_up_s _ _ _) | exact (ma_up_n (by decide)).trans ((ma_up_n (by decide)).trans (ma_up_s _ _ _)) | exact (ma_up_n (by decide)).trans ((ma_up_n (by decide)).trans ((ma_up_n (by decide)).trans (ma_up_s _ _ _)))) (by rfl) ?_
    refine ma_iload dX12_goThree_137 rfl ?_
    refine ma_iconst dX12_goThree_139 ?_
    refine ma_iast dX12_goThree_140 (by first | assumption | exact ma_up_s _ _ _ | exact (ma_up_n (by decide)).trans (by assumption) | exact (ma_up_n (by decide)).trans (ma_up_s _ _ _) | exact (ma_up_n (by decide)).trans ((ma_up_n (by decide)).trans (ma_up_s _ _ _)) | exact (ma_up_n (by decide)).trans ((ma_up_n (by decide)).trans ((ma_up_n (by decide)).trans (ma_up_s _ _ _)))) (by omega) (by omega) (by omega) ?_
    refine ma_aload_n dX12_goThree_141 rfl ?_
    refine ma_getf dX12_goThree_142 fX12_81 (by first | assumption | exact ma_up_s _ _ _ | exact (ma_up_n (by decide)).trans (by assumption) | exact (ma_up_n (by decide)).trans (ma_up_s _ _ _) | exact (ma_up_n (by decide)).trans ((ma_up_n (by decide)).trans (ma_up_s _ _ _)) | exact (ma_up_n (by decide)).trans ((ma_up_n (by decide)).trans ((ma_up_n (by decide)).trans (ma_up_s _ _ _)))) (by rfl) ?_
    refine ma_iload dX12_goThree_145 rfl ?_
    refine ma_iconst dX12_goThree_147 ?_
    refine ma_iast dX12_goThree_148 (by first | assumption | exact ma_up_s _ _ _ | exact (ma_up_n (by decide)).trans (by assumption) | exact (ma_up_n (by decide)).trans (ma_up_s _ _ _) | exact (ma_up_n (by decide)).trans ((ma_up_n (by decide)).trans (ma_up_s _ _ _)) | exact (ma_up_n (by decide)).trans ((ma_up_n (by decide)).trans ((ma_up_n (by decide)).trans (ma_up_s _ _ _)))) (by omega) (by omega) (by omega) ?_
    rw [ma_up_up]
    refine ma_aload_n dX12_goThree_149 rfl ?_
    refine ma_getf dX12_goThree_150 fX12_81 (by first | assumption | exact ma_up_s _ _ _ | exact (ma_up_n (by decide)).trans (by assumption) | exact (ma_up_n (by decide)).trans (ma_up_s _ _ _) | exact (ma_up_n (by decide)).trans ((ma_up_n (by decide)).trans (ma_up_s _ _ _)) | exact (ma_up_n (by decide)).trans ((ma_up_n (by decide)).trans ((ma_up_n (by decide)).trans (ma_up_s _ _ _)))) (by rfl) ?_
    refine ma_iload dX12_goThree_153 rfl ?_
    refine ma_iload dX12_goThree_155 rfl ?_
    refine ma_iast dX12_goThree_157 (by first | assumption | exact ma_up_s _ _ _ | exact (ma_up_n (by decide)).trans (by assumption) | exact (ma_up_n (by decide)).trans (ma_up_s _ _ _) | exact (ma_up_n (by decide)).trans ((ma_up_n (by decide)).trans (ma_up_s _ _ _)) | exact (ma_up_n (by decide)).trans ((ma_up_n (by decide)).trans ((ma_up_n (by decide)).trans (ma_up_s _ _ _)))) (by omega) (by omega) (by omega) ?_
    rw [ma_up_up]
    refine ma_aload_n dX12_goThree_158 rfl ?_
    refine ma_getf dX12_goThree_159 fX12_81 (by first | assumption | exact ma_up_s _ _ _ | exact (ma_up_n (by decide)).trans (by assumption) | exact (ma_up_n (by decide)).trans (ma_up_s _ _ _) | exact (ma_up_n (by decide)).trans ((ma_up_n (by decide)).trans (ma_up_s _ _ _)) | exact (ma_up_n (by decide)).trans ((ma_up_n (by decide)).trans ((ma_up_n (by decide)).trans (ma_up_s _ _ _)))) (by rfl) ?_
    refine ma_bipush dX12_goThree_162 ?_
    refine ma_iload dX12_goThree_164 rfl ?_
    refine ma_isub dX12_goThree_166 ?_
    refine ma_iload dX12_goThree_167 rfl ?_
    refine ma_isub dX12_goThree_169 ?_
    refine ma_iload dX12_goThree_170 rfl ?_
    refine ma_isub dX12_goThree_172 ?_
    refine ma_iload dX12_goThree_173 rfl ?_
    refine ma_iconst dX12_goThree_175 ?_
    refine ma_iadd dX12_goThree_176 ?_
    refine ma_iconst dX12_goThree_177 ?_
    refine ma_kmod dX12_goThree_178 (by decide) (by decide) ?_
    rw [show ((2 : Int) + 1) % 3 = 0 by decide]
    refine ma_iast dX12_goThree_179 (by first | assumption | exact ma_up_s _ _ _ | exact (ma_up_n (by decide)).trans (by assumption) | exact (ma_up_n (by decide)).trans (ma_up_s _ _ _) | exact (ma_up_n (by decide)).trans ((ma_up_n (by decide)).trans (ma_up_s _ _ _)) | exact (ma_up_n (by decide)).trans ((ma_up_n (by decide)).trans ((ma_up_n (by decide)).trans (ma_up_s _ _ _)))) (by omega) (by omega) (by omega) ?_
    rw [ma_up_up]
    refine ma_aload_n dX12_goThree_180 rfl ?_
    refine ma_iload dX12_goThree_181 rfl ?_
    refine ma_aload_n dX12_goThree_183 rfl ?_
    refine ma_getf dX12_goThree_184 fX12_81 (by first | assumption | exact ma_up_s _ _ _ | exact (ma_up_n (by decide)).trans (by assumption) | exact (ma_up_n (by decide)).trans (ma_up_s _ _ _) | exact (ma_up_n (by decide)).trans ((ma_up_n (by decide)).trans (ma_up_s _ _ _)) | exact (ma_up_n (by decide)).trans ((ma_up_n (by decide)).trans ((ma_up_n (by decide)).trans (ma_up_s _ _ _)))) (by rfl) ?_
    refine ma_iconst dX12_goThree_187 ?_
    refine ma_iald dX12_goThree_188 (by first | assumption | exact ma_up_s _ _ _ | exact (ma_up_n (by decide)).trans (by assumption) | exact (ma_up_n (by decide)).trans (ma_up_s _ _ _) | exact (ma_up_n (by decide)).trans ((ma_up_n (by decide)).trans (ma_up_s _ _ _)) | exact (ma_up_n (by decide)).trans ((ma_up_n (by decide)).trans ((ma_up_n (by decide)).trans (ma_up_s _ _ _)))) (by omega) (by omega) (by omega) ?_
    refine ma_aload_n dX12_goThree_189 rfl ?_
    refine ma_getf dX12_goThree_190 fX12_81 (by first | assumption | exact ma_up_s _ _ _ | exact (ma_up_n (by decide)).trans (by assumption) | exact (ma_up_n (by decide)).trans (ma_up_s _ _ _) | exact (ma_up_n (by decide)).trans ((ma_up_n (by decide)).trans (ma_up_s _ _ _)) | exact (ma_up_n (by decide)).trans ((ma_up_n (by decide)).trans ((ma_up_n (by decide)).trans (ma_up_s _ _ _)))) (by rfl) ?_
    refine ma_iconst dX12_goThree_193 ?_
    refine ma_iald dX12_goThree_194 (by first | assumption | exact ma_up_s _ _ _ | exact (ma_up_n (by decide)).trans (by assumption) | exact (ma_up_n (by decide)).trans (ma_up_s _ _ _) | exact (ma_up_n (by decide)).trans ((ma_up_n (by decide)).trans (ma_up_s _ _ _)) | exact (ma_up_n (by decide)).trans ((ma_up_n (by decide)).trans ((ma_up_n (by decide)).trans (ma_up_s _ _ _)))) (by omega) (by omega) (by omega) ?_
    refine ma_aload_n dX12_goThree_195 rfl ?_
    refine ma_getf dX12_goThree_196 fX12_81 (by first | assumption | exact ma_up_s _ _ _ | exact (ma_up_n (by decide)).trans (by assumption) | exact (ma_up_n (by decide)).trans (ma_up_s _ _ _) | exact (ma_up_n (by decide)).trans ((ma_up_n (by decide)).trans (ma_up_s _ _ _)) | exact (ma_up_n (by decide)).trans ((ma_up_n (by decide)).trans ((ma_up_n (by decide)).trans (ma_up_s _ _ _)))) (by rfl) ?_
    refine ma_iconst dX12_goThree_199 ?_
    refine ma_iald dX12_goThree_200 (by first | assumption | exact ma_up_s _ _ _ | exact (ma_up_n (by decide)).trans (by assumption) | exact (ma_up_n (by decide)).trans (ma_up_s _ _ _) | exact (ma_up_n (by decide)).trans ((ma_up_n (by decide)).trans (ma_up_s _ _ _)) | exact (ma_up_n (by decide)).trans ((ma_up_n (by decide)).trans ((ma_up_n (by decide)).trans (ma_up_s _ _ _)))) (by omega) (by omega) (by omega) ?_
    refine ma_aload_n dX12_goThree_201 rfl ?_
    refine ma_getf dX12_goThree_202 fX12_81 (by first | assumption | exact ma_up_s _ _ _ | exact (ma_up_n (by decide)).trans (by assumption) | exact (ma_up_n (by decide)).trans (ma_up_s _ _ _) | exact (ma_up_n (by decide)).trans ((ma_up_n (by decide)).trans (ma_up_s _ _ _)) | exact (ma_up_n (by decide)).trans ((ma_up_n (by decide)).trans ((ma_up_n (by decide)).trans (ma_up_s _ _ _)))) (by rfl) ?_
    refine ma_iconst dX12_goThree_205 ?_
    refine ma_iald dX12_goThree_206 (by first | assumption | exact ma_up_s _ _ _ | exact (ma_up_n (by decide)).trans (by assumption) | exact (ma_up_n (by decide)).trans (ma_up_s _ _ _) | exact (ma_up_n (by decide)).trans ((ma_up_n (by decide)).trans (ma_up_s _ _ _)) | exact (ma_up_n (by decide)).trans ((ma_up_n (by decide)).trans ((ma_up_n (by decide)).trans (ma_up_s _ _ _)))) (by omega) (by omega) (by omega) ?_
    refine ma_cV [_, _, _, _, _] dX12_goThree_207 wX12_goes lX12_405 iX12_goes sX12_goes rfl (by first | assumption | exact ma_up_s _ _ _ | exact (ma_up_n (by decide)).trans (by assumption) | exact (ma_up_n (by decide)).trans (ma_up_s _ _ _) | exact (ma_up_n (by decide)).trans ((ma_up_n (by decide)).trans (ma_up_s _ _ _)) | exact (ma_up_n (by decide)).trans ((ma_up_n (by decide)).trans ((ma_up_n (by decide)).trans (ma_up_s _ _ _)))) (Nat.le_of_ble_eq_true rfl) ?_
    refine c_X12_goes ((ma_up_n (by decide)).trans hM) ((ma_up_n (by decide)).trans h92) ((ma_up_n (by decide)).trans h93) (g := 2) hgm (by decide) ?_
    refine ma_aload_n dX12_goThree_210 rfl ?_
    refine ma_iload dX12_goThree_211 rfl ?_
    refine ma_iload dX12_goThree_213 rfl ?_
    refine ma_cS [_, _, _] dX12_goThree_215 wX12_glue lX12_150 tX12_glue (Nat.le_of_ble_eq_true rfl) ?_
    refine c_X12_glue ((ma_up_n (nbk 73 (by decide))).trans ((ma_up_n (nbk 93 (by decide))).trans ((ma_up_n (nbk 92 (by decide))).trans ((ma_up_n (nbk 97 (by decide))).trans hb)))) (by constructor <;> omega) w0 ?_
    rw [show 1 + 4 * T + w = 1 + (4 * T + w) by omega, hA.2 (4 * T + w) (by omega) (by omega)]
    refine ma_istoreN dX12_goThree_218 (by decide) rfl ?_
    refine ma_iload dX12_goThree_220 rfl ?_
    refine ma_bipush dX12_goThree_222 ?_
    refine ma_kmod dX12_goThree_224 (by constructor <;> omega) (by constructor <;> omega) ?_
    rw [cp.2.2]
    refine ma_istoreN dX12_goThree_225 (by decide) rfl ?_
    refine ma_iload dX12_goThree_227 rfl ?_
    refine ma_iload dX12_goThree_229 rfl ?_
    refine ma_cS [_, _] dX12_goThree_231 wX12_image lX12_124 tX12_image (Nat.le_of_ble_eq_true rfl) ?_
    refine c_X12_image hpp w0 ?_
    refine ma_istoreN dX12_goThree_234 (by decide) rfl ?_
    refine ma_iload dX12_goThree_236 rfl ?_
    refine ma_bipush dX12_goThree_238 ?_
    refine ma_kdiv dX12_goThree_240 (by constructor <;> omega) (by constructor <;> omega) ?_
    rw [cp.2.1]
    refine ma_istoreN dX12_goThree_241 (by decide) rfl ?_
    refine ma_iload dX12_goThree_243 rfl ?_
    refine ma_iload dX12_goThree_245 rfl ?_
    refine ma_cS [_, _] dX12_goThree_247 wX12_image lX12_124 tX12_image (Nat.le_of_ble_eq_true rfl) ?_
    refine c_X12_image hpp u0 ?_
    refine ma_istoreN dX12_goThree_250 (by decide) rfl ?_
    refine ma_iload dX12_goThree_252 rfl ?_
    refine ma_iload dX12_goThree_254 rfl ?_
    refine ma_cS [_, _] dX12_goThree_256 wX12_image lX12_124 tX12_image (Nat.le_of_ble_eq_true rfl) ?_
    refine c_X12_image hpp v0 ?_
    refine ma_istoreN dX12_goThree_259 (by decide) rfl ?_
    refine ma_bipush dX12_goThree_261 ?_
    refine ma_iload dX12_goThree_263 rfl ?_
    refine ma_isub dX12_goThree_265 ?_
    refine ma_iload dX12_goThree_266 rfl ?_
    refine ma_isub dX12_goThree_268 ?_
    refine ma_iload dX12_goThree_269 rfl ?_
    refine ma_isub dX12_goThree_271 ?_
    rw [← im_s4 pp.2.2.2.2.1 pp.2.2.2.2.2.1 u0 v0 w0 uv uw vw]
    refine ma_istoreN dX12_goThree_272 (by decide) rfl ?_
    refine ma_iincN dX12_goThree_274 rfl (by decide) rfl ?_
    refine ma_goto 114 dX12_goThree_277 rfl ?_
    exact KO _ _ _ _ _ _ rfl rfl rfl rfl rfl rfl bn
