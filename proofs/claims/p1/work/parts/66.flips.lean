theorem ct_mono {P R : Int → Prop} : ∀ n : Nat, (∀ j : Int, 0 ≤ j → j < n → R j → P j) → ct R n ≤ ct P n
  | 0, _ => Int.le_refl _
  | n + 1, h => by
    have ih := ct_mono (P := P) (R := R) n (fun j a b => h j a (by omega))
    by_cases r : R n
    · rw [(ct_sn n).1 r, (ct_sn n).1 (h n (by omega) (by omega) r)]
      omega
    · rw [(ct_sn n).2 r]
      by_cases p : P n
      · rw [(ct_sn n).1 p]; omega
      · rw [(ct_sn n).2 p]; exact ih
/-- as many as are told, all different -/
theorem ct_list {P : Int → Prop} {n : Nat} : ∀ l : List Int, (∀ x, x ∈ l → 0 ≤ x ∧ x < n ∧ P x) → l.Nodup → (l.length : Int) ≤ ct P n := by
  intro l hl hn
  have key : ∀ l : List Int, (∀ x, x ∈ l → 0 ≤ x ∧ x < n) → l.Nodup → ct (fun j => j ∈ l) n = l.length := by
    intro l
    induction l with
    | nil =>
      intro _ _
      exact ct_0 n (fun q _ _ z => by cases z)
    | cons a l ih =>
      intro h1 h2
      have h3 := List.nodup_cons.mp h2
      have e : ct (fun j => j ∈ a :: l) n = ct (fun j => j = a ∨ j ∈ l) n := ct_c n (fun q _ _ => List.mem_cons)
      rw [e, ct_o (P := fun j => j = a) (R := fun j => j ∈ l) n (fun j _ _ p q => h3.1 (by have p : j = a := p; rw [← p]; exact q)), ct_1 (h1 a (List.mem_cons_self)).1, if_pos (h1 a (List.mem_cons_self)).2, ih (fun x hx => h1 x (List.mem_cons_of_mem _ hx)) h3.2]
      rw [List.length_cons]
      omega
  rw [← key l (fun x hx => ⟨(hl x hx).1, (hl x hx).2.1⟩) hn]
  exact ct_mono n (fun j _ _ hj => (hl j hj).2.2)
theorem rkf_ok {f y : Int} (f0 : 0 ≤ f) (f1 : f < 4) (y0 : 0 ≤ y) (y1 : y < 4) (h : y ≠ f) : 0 ≤ rkf f y ∧ rkf f y < 3 := by
  unfold rkf
  split <;> omega
theorem fl_two {t k f : Int} {G : Int → Int} (hG : VG t G) (f0 : 0 ≤ f) (f1 : f < 4) (hk : 0 ≤ k ∧ k < 4 * t) (hf : k % 4 = f) (hk2 : 0 ≤ G k ∧ G k / 32 ≠ k / 4) (h7 : t ≤ 7) (hS : gS G (k / 4) (fun x => x = f) = (fun i => i = k / 4 ∨ i = G k / 32)) : FL t G (k / 4) (fun x => x = f) (fun y => t - 2 + rkf f y) (t - 2) (t + 1) := by
  have ht := hG.1
  have ek : 4 * (k / 4) + f = k := by omega
  have hb : 0 ≤ G k / 32 ∧ G k / 32 < t := by
    rcases hG.2.1 k hk.1 hk.2 with z | z <;> omega
  refine ⟨⟨by omega, by omega, ?_, by omega, by omega, by omega⟩, fun x x0 x1 hx => ?_, fun x x' x0 x1 x0' x1' hx hx' ne => absurd ((show x = f from hx).trans (show x' = f from hx').symm) ne, fun y y0 y1 hy => ?_, fun y y' y0 y1 y0' y1' hy hy' e => ?_, fun n n0 n1 => ?_⟩
  · rw [hS, sty_2 (by omega) (by omega) hb.1 hb.2 (Ne.symm hk2.2)]
  · have hx : x = f := hx
    unfold bX
    rw [hx, ek]
    exact hk2
  · have := rkf_ok f0 f1 y0 y1 hy
    show t - 2 ≤ t - 2 + rkf f y ∧ t - 2 + rkf f y < t + 1
    omega
  · have e : t - 2 + rkf f y = t - 2 + rkf f y' := e
    have hy : y ≠ f := hy
    have hy' : y' ≠ f := hy'
    unfold rkf at e
    split at e <;> split at e <;> omega
  · rcases Int.lt_or_le (n - (t - 2)) f with z | z
    · refine ⟨n - (t - 2), by omega, by omega, by show ¬ n - (t - 2) = f; omega, ?_⟩
      show t - 2 + rkf f (n - (t - 2)) = n
      unfold rkf
      rw [if_neg (by omega)]
      omega
    · refine ⟨n - (t - 2) + 1, by omega, by omega, by show ¬ n - (t - 2) + 1 = f; omega, ?_⟩
      show t - 2 + rkf f (n - (t - 2) + 1) = n
      unfold rkf
      rw [if_pos (by omega)]
      omega
theorem fl_one {t k : Int} {G : Int → Int} (hG : VG t G) (hk : 0 ≤ k ∧ k < t) (h5 : t ≤ 5) : FL t G k (fun _ => False) (fun y => t - 1 + y) (t - 1) (t + 3) := by
  have ht := hG.1
  refine ⟨⟨by omega, by omega, ?_, by omega, by omega, by omega⟩, fun x x0 x1 hx => hx.elim, fun x x' x0 x1 x0' x1' hx => hx.elim, fun y y0 y1 hy => ?_, fun y y' y0 y1 y0' y1' hy hy' e => ?_, fun n n0 n1 => ⟨n - (t - 1), by omega, by omega, fun z => z, ?_⟩⟩
  · rw [gs_one, sty_1 (by omega) (by omega)]
  · show t - 1 ≤ t - 1 + y ∧ t - 1 + y < t + 3
    omega
  · have e : t - 1 + y = t - 1 + y' := e
    omega
  · show t - 1 + (n - (t - 1)) = n
    omega
/-- turning about and going beyond a face: either first -/
theorem nE_tr {G : Int → Int} {t : Int} (hG : VG t G) {f x : Int} (hx : oE t x) (f0 : 0 ≤ f) (f1 : f < 4) : nE G f (tr x) = if nE G f x < 0 then -1 else tr (nE G f x) := by
  obtain ⟨a, b, c⟩ := tr_p x
  unfold oE at hx
  have hn := nb_E hG
  by_cases z : f = x / 4 % 4 ∨ f = x % 4 ∨ G (4 * (x / 16) + f) < 0
  · have e1 : nE G f x = -1 := by unfold nE; rw [if_pos z]
    have e2 : nE G f (tr x) = -1 := by
      unfold nE
      rw [a, b, c, if_pos]
      rcases z with z | z | z
      · exact Or.inr (Or.inl z)
      · exact Or.inl z
      · exact Or.inr (Or.inr z)
    rw [e1, e2, if_pos (by omega)]
  · have e1 : nE G f x = 16 * (G (4 * (x / 16) + f) / 32) + 4 * im (G (4 * (x / 16) + f) % 32) (x / 4 % 4) + im (G (4 * (x / 16) + f) % 32) (x % 4) := by unfold nE; rw [if_neg z]
    have e2 : nE G f (tr x) = 16 * (G (4 * (x / 16) + f) / 32) + 4 * im (G (4 * (x / 16) + f) % 32) (x % 4) + im (G (4 * (x / 16) + f) % 32) (x / 4 % 4) := by
      unfold nE
      rw [a, b, c, if_neg]
      intro w
      rcases w with w | w | w
      · exact z (Or.inr (Or.inl w))
      · exact z (Or.inl w)
      · exact z (Or.inr (Or.inr w))
    have ht := hG.1
    have hg := vg_in hG (k := 4 * (x / 16) + f) (by omega) (by omega)
    have p1 : G (4 * (x / 16) + f) % 32 < 24 := by omega
    have p0 : 0 ≤ G (4 * (x / 16) + f) % 32 := by omega
    have i1 := im_in p0 p1 (show 0 ≤ x / 4 % 4 by omega) (show x / 4 % 4 < 4 by omega)
    have i2 := im_in p0 p1 (show 0 ≤ x % 4 by omega) (show x % 4 < 4 by omega)
    have g0 : 0 ≤ G (4 * (x / 16) + f) / 32 := by omega
    rw [if_neg (by omega), e2]
    generalize im (G (4 * (x / 16) + f) % 32) (x / 4 % 4) = u at *
    generalize im (G (4 * (x / 16) + f) % 32) (x % 4) = v at *
    generalize G (4 * (x / 16) + f) / 32 = w at *
    have d1 : nE G f x / 16 = w := by omega
    have d2 : nE G f x / 4 % 4 = u := by
      have : nE G f x / 4 = 4 * w + u := by omega
      omega
    have d3 : nE G f x % 4 = v := by omega
    unfold tr
    rw [d1, d2, d3]
/-- the edge of an end is the edge of what it is one with -/
theorem eg_n {t : Int} {G E P : Int → Int} (hB : BP t G E P) (hG : VG t G) {f x : Int} (hx : oE t x) (f0 : 0 ≤ f) (f1 : f < 4) (h : 0 ≤ nE G f x) : eg E (nE G f x) = eg E x ∧ oE t (nE G f x) ∧ E (nE G f x) = E x ∧ E (tr (nE G f x)) = E (tr x) := by
  have h1 := hB.1.2 x f hx f0 f1 h
  have e := nE_tr hG hx f0 f1
  rw [if_neg (by omega)] at e
  have hk := ((nb_E hG).2 x f hx f0 f1 h).1
  have hk2 := tr_o hk
  have h2 := hB.1.2 (tr x) f (tr_o hx) f0 f1 (by rw [e]; exact hk2.1)
  rw [e] at h2
  refine ⟨?_, hk, h1, h2⟩
  unfold eg
  rw [h1, h2]
