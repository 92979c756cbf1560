theorem ma_up_up (h : ma_H) (a : Nat) (c c' : ma_C) : ma_up (ma_up h a c) a c' = ma_up h a c' := by
  funext j
  unfold ma_up
  split <;> rfl
theorem ma_up_cm (h : ma_H) {a b : Nat} (c c' : ma_C) (e : a ≠ b) : ma_up (ma_up h a c) b c' = ma_up (ma_up h b c') a c := by
  funext j
  unfold ma_up
  by_cases h1 : j = b
  · by_cases h2 : j = a
    · omega
    · rw [if_pos h1, if_neg h2, if_pos h1]
  · rw [if_neg h1]
    by_cases h2 : j = a
    · rw [if_pos h2, if_pos h2]
    · rw [if_neg h2, if_neg h2, if_neg h1]
theorem ma_up_id {h : ma_H} {a : Nat} {c : ma_C} (e : h a = c) : ma_up h a c = h := by
  funext j
  unfold ma_up
  by_cases h1 : j = a
  · rw [if_pos h1, h1, e]
  · rw [if_neg h1]
/-- cells that hold the same within their lengths -/
def ma_eq (c c' : ma_C) : Prop := c = c' ∨ ∃ t n f f', c = .inl (t, n, f) ∧ c' = .inl (t, n, f') ∧ ∀ j : Nat, j < n → f j = f' j
theorem ma_eq_lv {c c' : ma_C} (e : ma_eq c c') : ma_lv c = ma_lv c' := by
  rcases e with rfl | ⟨t, n, f, f', rfl, rfl, -⟩ <;> rfl
theorem ma_arrV {cA : ClassId} {n : Nat} {f g : Nat → Value} (e : ∀ j, j < n → f j = g j) : arrV cA n f = arrV cA n g := by
  unfold arrV
  congr 2
  funext j
  exact e j.val j.isLt
theorem ma_eq_at {D : va_G} {cT : Nat → ClassId} {ad : Nat → Nat} {k : Nat} {c c' : ma_C} {H : Heap} (e : ma_eq c c') (h : va_at D vwCl (ad k, ma_re cT ad c) H) : va_at D vwCl (ad k, ma_re cT ad c') H := by
  rcases e with rfl | ⟨t, n, f, f', rfl, rfl, hf⟩
  · exact h
  · have h : H[ad k]? = some (vp_cell (cT t) (n, if t = 1 then .inr (.inl (fun j => Int64.ofInt (f j))) else .inl (fun j => Int32.ofInt (f j)))) := h
    show H[ad k]? = some (vp_cell (cT t) (n, if t = 1 then .inr (.inl (fun j => Int64.ofInt (f' j))) else .inl (fun j => Int32.ofInt (f' j))))
    rw [h]
    by_cases ht : t = 1
    · rw [if_pos ht, if_pos ht, vp_cell_l, vp_cell_l]
      rw [ma_arrV (fun j hj => by rw [hf j hj])]
    · rw [if_neg ht, if_neg ht, vp_cell_i, vp_cell_i]
      rw [ma_arrV (fun j hj => by rw [hf j hj])]
section MAE
variable {scr : Option (Nat × (Int → Int))} {M : ma_M} {d kc ks pc : Nat} {lv : List (Option ma_V)} {st : List ma_V} {h : ma_H} {nx : Nat} {Q : Option ma_V → ma_H → Nat → Prop}
theorem ma_cong (h' : ma_H) (e : ∀ k, ma_eq (h k) (h' k)) (K : ma_J scr M d kc ks pc lv st h' nx Q) : ma_J scr M d kc ks pc lv st h nx Q := by
  intro p l e9 R s m args below meth c D cT A ad base H locs cells slots ls Z CX hA SP HP hS hl hf hL hc hs FIN
  exact K p l e9 R s m args below meth c D cT A ad base H locs cells slots ls Z CX hA SP ⟨HP.1, fun k hk => by
    rw [← ma_eq_lv (e k)] at hk
    obtain ⟨h1, h2, h3, h4⟩ := HP.2 k hk
    exact ⟨h1, h2, h3, ma_eq_at (e k) h4⟩⟩ hS hl hf hL hc hs FIN
/-- an array's contents by another name -/
theorem ma_ext {a t n : Nat} {f : Int → Int} (f' : Int → Int) (ha : h a = .inl (t, n, f)) (hf : ∀ j : Int, 0 ≤ j → j < n → f j = f' j) (K : ma_J scr M d kc ks pc lv st (ma_up h a (.inl (t, n, f'))) nx Q) : ma_J scr M d kc ks pc lv st h nx Q := by
  refine ma_cong _ (fun k => ?_) K
  by_cases e : k = a
  · subst e
    rw [ma_up_s, ha]
    exact Or.inr ⟨t, n, f, f', rfl, rfl, fun j hj => hf j (by omega) (by omega)⟩
  · rw [ma_up_n e]
    exact Or.inl rfl
end MAE
