theorem pk_ne {p q : Int} (p0 : 0 ≤ p) (p1 : p < 24) (q0 : 0 ≤ q) (q1 : q < 24) (n : p < q) : 16 * im p 0 + 4 * im p 1 + im p 2 ≠ 16 * im q 0 + 4 * im q 1 + im q 2 := by
  have a0 := im_in p0 p1 (show (0 : Int) ≤ 0 by decide) (by decide)
  have a1 := im_in p0 p1 (show (0 : Int) ≤ 1 by decide) (by decide)
  have a2 := im_in p0 p1 (show (0 : Int) ≤ 2 by decide) (by decide)
  have b0 := im_in q0 q1 (show (0 : Int) ≤ 0 by decide) (by decide)
  have b1 := im_in q0 q1 (show (0 : Int) ≤ 1 by decide) (by decide)
  have b2 := im_in q0 q1 (show (0 : Int) ≤ 2 by decide) (by decide)
  intro e
  have := im_ex p0 p1 q0 q1 (by omega) (by omega) (by omega)
  omega
theorem l_X12_init_302 {h : ma_H} {nx d : Nat} {I : Nat → Int} {Q : Option ma_V → ma_H → Nat → Prop} (hM : h 73 = co 12 (mo I)) (K : ∀ f, PB f → ma_J none mX12_init (d + 1) 0 0 342 [some (vr 73), some (vi 24)] [] (ma_up h 77 (ci 64 f)) nx Q) :
    ∀ (m : Nat) (i : Int) (f : Int → Int), (0 ≤ i) → (i ≤ 24) → (24 - i < m) → (∀ p, 0 ≤ p → p < i → f (16 * im p 0 + 4 * im p 1 + im p 2) = p) → ma_J none mX12_init (d + 1) 0 0 302 [some (vr 73), some (vi i)] [] (ma_up h 77 (ci 64 f)) nx Q := by
  intro m
  induction m with
  | zero => intro i f i0 i1 hm hf; omega
  | succ m ih =>
    intro i f i0 i1 hm hf
    have m0 := fun (z : i < 24) => im_in i0 z (show (0 : Int) ≤ 0 by decide) (by decide)
    have m1 := fun (z : i < 24) => im_in i0 z (show (0 : Int) ≤ 1 by decide) (by decide)
    have m2 := fun (z : i < 24) => im_in i0 z (show (0 : Int) ≤ 2 by decide) (by decide)
    refine ma_iload_n dX12_init_302 rfl ?_
    refine ma_bipush dX12_init_303 ?_
    refine ma_rcmp_ge 342 dX12_init_305 rfl (by constructor <;> omega) (by constructor <;> omega) (fun c305 => ?_) (fun c305 => ?_)
    · -- 342
      have e : i = 24 := by omega
      rw [e] at hf ⊢
      exact K f (fun p p0 p1 => hf p p0 p1)
    · -- 308
      have m0 := m0 (by omega)
      have m1 := m1 (by omega)
      have m2 := m2 (by omega)
      refine ma_aload_n dX12_init_308 rfl ?_
      refine ma_getf dX12_init_309 fX12_21 (by first | assumption | exact ma_up_s _ _ _ | exact (ma_up_n (by decide)).trans (by assumption)) (by rfl) ?_
      refine ma_bipush dX12_init_312 ?_
      refine ma_iload_n dX12_init_314 rfl ?_
      refine ma_iconst dX12_init_315 ?_
      refine ma_cS [_, _] dX12_init_316 wX12_image lX12_124 tX12_image (Nat.le_of_ble_eq_true rfl) ?_
      refine c_X12_image ⟨i0, by omega⟩ (by decide) ?_
      refine ma_imul dX12_init_319 ?_
      refine ma_iconst dX12_init_320 ?_
      refine ma_iload_n dX12_init_321 rfl ?_
      refine ma_iconst dX12_init_322 ?_
      refine ma_cS [_, _] dX12_init_323 wX12_image lX12_124 tX12_image (Nat.le_of_ble_eq_true rfl) ?_
      refine c_X12_image ⟨i0, by omega⟩ (by decide) ?_
      refine ma_imul dX12_init_326 ?_
      refine ma_iadd dX12_init_327 ?_
      refine ma_iload_n dX12_init_328 rfl ?_
      refine ma_iconst dX12_init_329 ?_
      refine ma_cS [_, _] dX12_init_330 wX12_image lX12_124 tX12_image (Nat.le_of_ble_eq_true rfl) ?_
      refine c_X12_image ⟨i0, by omega⟩ (by decide) ?_
      refine ma_iadd dX12_init_333 ?_
      refine ma_iload_n dX12_init_334 rfl ?_
      refine ma_iast dX12_init_335 (by first | assumption | exact ma_up_s _ _ _ | exact (ma_up_n (by decide)).trans (by assumption)) (by omega) (by omega) (by omega) ?_
      rw [ma_up_up]
      refine ma_iincN dX12_init_336 rfl (by decide) rfl ?_
      refine ma_goto 302 dX12_init_339 rfl ?_
      refine ih (i + 1) _ (by omega) (by omega) (by omega) (fun p p0 p1 => ?_)
      rcases Int.lt_or_eq_of_le (show p ≤ i by omega) with e | e
      · rw [uf_n (pk_ne p0 (by omega) i0 (by omega) (by omega))]
        exact hf p p0 e
      · rw [e, uf_s]
theorem l_X12_init_351 {h : ma_H} {nx d : Nat} {I : Nat → Int} {Q : Option ma_V → ma_H → Nat → Prop} (hM : h 73 = co 12 (mo I)) (K : ∀ A : Int → Int, A 0 = 1 → (∀ j, 0 ≤ j → j < 32 → A (1 + j) = -1) → Q none (ma_up h 74 (ci 33 A)) nx) :
    ∀ (m : Nat) (i : Int) (A : Int → Int), (1 ≤ i) → (i ≤ 33) → (33 - i < m) → (A 0 = 1) → (∀ p, 1 ≤ p → p < i → A p = -1) → ma_J none mX12_init (d + 1) 0 0 351 [some (vr 73), some (vi i)] [] (ma_up h 74 (ci 33 A)) nx Q := by
  intro m
  induction m with
  | zero => intro i A i0 i1 hm h1 hf; omega
  | succ m ih =>
    intro i A i0 i1 hm h1 hf
    refine ma_iload_n dX12_init_351 rfl ?_
    refine ma_bipush dX12_init_352 ?_
    refine ma_rcmp_ge 370 dX12_init_354 rfl (by constructor <;> omega) (by constructor <;> omega) (fun c354 => ?_) (fun c354 => ?_)
    · -- 370
      refine ma_vret dX12_init_370 rfl ?_
      exact K A h1 (fun j j0 j1 => hf (1 + j) (by omega) (by omega))
    · -- 357
      refine ma_aload_n dX12_init_357 rfl ?_
      refine ma_getf dX12_init_358 fX12_9 (by first | assumption | exact ma_up_s _ _ _ | exact (ma_up_n (by decide)).trans (by assumption)) (by rfl) ?_
      refine ma_iload_n dX12_init_361 rfl ?_
      refine ma_iconst dX12_init_362 ?_
      refine ma_iast dX12_init_363 (by first | assumption | exact ma_up_s _ _ _ | exact (ma_up_n (by decide)).trans (by assumption)) (by omega) (by omega) (by omega) ?_
      rw [ma_up_up]
      refine ma_iincN dX12_init_364 rfl (by decide) rfl ?_
      refine ma_goto 351 dX12_init_367 rfl ?_
      refine ih (i + 1) _ (by omega) (by omega) (by omega) (by rw [uf_n (by omega)]; exact h1) (fun p p0 p1 => ?_)
      rcases Int.lt_or_eq_of_le (show p ≤ i by omega) with e | e
      · rw [uf_n (by omega)]
        exact hf p p0 e
      · rw [e, uf_s]
def ih1 (h : ma_H) : ma_H := (ma_up (ma_up (ma_up (ma_up (ma_up (ma_up (ma_up (ma_up (ma_up (ma_up (ma_up (ma_up (ma_up (ma_up (ma_up (ma_up (ma_up (ma_up (ma_up (ma_up (ma_up (ma_up (ma_up (ma_up (ma_up (ma_up (ma_up (ma_up (ma_up (ma_up (ma_up (ma_up (ma_up (ma_up (ma_up (ma_up (ma_up (ma_up (ma_up (ma_up (ma_up (ma_up (ma_up (ma_up (ma_up (ma_up (ma_up (ma_up (ma_up (ma_up (ma_up (ma_up (ma_up (ma_up (ma_up (ma_up (ma_up (ma_up (ma_up (ma_up (ma_up (ma_up (ma_up (ma_up (ma_up (ma_up (ma_up (ma_up (ma_up (ma_up (ma_up (ma_up (ma_up (ma_up (ma_up h 73 (co 12 [vz, vz, vi 0, vz, vi 0, vi 0, vz, vz, vz, vz, vz, vz, vi 0, vz, vz, vi 0, vi 0, vi 0, vz, vz, vz, vz, vi 0, vz, vz, vi 0, vz, vi 0, vi 0, vi 0, vz, vz, vi 0, vz, vi 0, vz, vz, vz, vz, vz, vi 0, vz, vz, vi 0, vi 0, vi 0, vi 0, vi 0, vz, vz, vi 0, vz, vz, vz, vz, vz, vi 0, vz, vz, vi 0])) 74 (ci 33 (fun _ => 0))) 73 (co 12 [vr 74, vz, vi 0, vz, vi 0, vi 0, vz, vz, vz, vz, vz, vz, vi 0, vz, vz, vi 0, vi 0, vi 0, vz, vz, vz, vz, vi 0, vz, vz, vi 0, vz, vi 0, vi 0, vi 0, vz, vz, vi 0, vz, vi 0, vz, vz, vz, vz, vz, vi 0, vz, vz, vi 0, vi 0, vi 0, vi 0, vi 0, vz, vz, vi 0, vz, vz, vz, vz, vz, vi 0, vz, vz, vi 0])) 75 (cb 80 (fun _ => 0))) 73 (co 12 [vr 74, vr 75, vi 0, vz, vi 0, vi 0, vz, vz, vz, vz, vz, vz, vi 0, vz, vz, vi 0, vi 0, vi 0, vz, vz, vz, vz, vi 0, vz, vz, vi 0, vz, vi 0, vi 0, vi 0, vz, vz, vi 0, vz, vi 0, vz, vz, vz, vz, vz, vi 0, vz, vz, vi 0, vi 0, vi 0, vi 0, vi 0, vz, vz, vi 0, vz, vz, vz, vz, vz, vi 0, vz, vz, vi 0])) 76 (cl 96 (fun _ => 0))) 73 (co 12 [vr 74, vr 75, vi 0, vr 76, vi 0, vi 0, vz, vz, vz, vz, vz, vz, vi 0, vz, vz, vi 0, vi 0, vi 0, vz, vz, vz, vz, vi 0, vz, vz, vi 0, vz, vi 0, vi 0, vi 0, vz, vz, vi 0, vz, vi 0, vz, vz, vz, vz, vz, vi 0, vz, vz, vi 0, vi 0, vi 0, vi 0, vi 0, vz, vz, vi 0, vz, vz, vz, vz, vz, vi 0, vz, vz, vi 0])) 77 (ci 64 (fun _ => 0))) 73 (co 12 [vr 74, vr 75, vi 0, vr 76, vi 0, vi 0, vr 77, vz, vz, vz, vz, vz, vi 0, vz, vz, vi 0, vi 0, vi 0, vz, vz, vz, vz, vi 0, vz, vz, vi 0, vz, vi 0, vi 0, vi 0, vz, vz, vi 0, vz, vi 0, vz, vz, vz, vz, vz, vi 0, vz, vz, vi 0, vi 0, vi 0, vi 0, vi 0, vz, vz, vi 0, vz, vz, vz, vz, vz, vi 0, vz, vz, vi 0])) 78 (ci 8 (fun _ => 0))) 73 (co 12 [vr 74, vr 75, vi 0, vr 76, vi 0, vi 0, vr 77, vr 78, vz, vz, vz, vz, vi 0, vz, vz, vi 0, vi 0, vi 0, vz, vz, vz, vz, vi 0, vz, vz, vi 0, vz, vi 0, vi 0, vi 0, vz, vz, vi 0, vz, vi 0, vz, vz, vz, vz, vz, vi 0, vz, vz, vi 0, vi 0, vi 0, vi 0, vi 0, vz, vz, vi 0, vz, vz, vz, vz, vz, vi 0, vz, vz, vi 0])) 79 (ci 32 (fun _ => 0))) 73 (co 12 [vr 74, vr 75, vi 0, vr 76, vi 0, vi 0, vr 77, vr 78, vr 79, vz, vz, vz, vi 0, vz, vz, vi 0, vi 0, vi 0, vz, vz, vz, vz, vi 0, vz, vz, vi 0, vz, vi 0, vi 0, vi 0, vz, vz, vi 0, vz, vi 0, vz, vz, vz, vz, vz, vi 0, vz, vz, vi 0, vi 0, vi 0, vi 0, vi 0, vz, vz, vi 0, vz, vz, vz, vz, vz, vi 0, vz, vz, vi 0])) 80 (ci 8 (fun _ => 0))) 73 (co 12 [vr 74, vr 75, vi 0, vr 76, vi 0, vi 0, vr 77, vr 78, vr 79, vr 80, vz, vz, vi 0, vz, vz, vi 0, vi 0, vi 0, vz, vz, vz, vz, vi 0, vz, vz, vi 0, vz, vi 0, vi 0, vi 0, vz, vz, vi 0, vz, vi 0, vz, vz, vz, vz, vz, vi 0, vz, vz, vi 0, vi 0, vi 0, vi 0, vi 0, vz, vz, vi 0, vz, vz, vz, vz, vz, vi 0, vz, vz, vi 0])) 81 (ci 33 (fun _ => 0))) 73 (co 12 [vr 74, vr 75, vi 0, vr 76, vi 0, vi 0, vr 77, vr 78, vr 79, vr 80, vr 81, vz, vi 0, vz, vz, vi 0, vi 0, vi 0, vz, vz, vz, vz, vi 0, vz, vz, vi 0, vz, vi 0, vi 0, vi 0, vz, vz, vi 0, vz, vi 0, vz, vz, vz, vz, vz, vi 0, vz, vz, vi 0, vi 0, vi 0, vi 0, vi 0, vz, vz, vi 0, vz, vz, vz, vz, vz, vi 0, vz, vz, vi 0])) 82 (ci 33 (fun _ => 0))) 73 (co 12 [vr 74, vr 75, vi 0, vr 76, vi 0, vi 0, vr 77, vr 78, vr 79, vr 80, vr 81, vr 82, vi 0, vz, vz, vi 0, vi 0, vi 0, vz, vz, vz, vz, vi 0, vz, vz, vi 0, vz, vi 0, vi 0, vi 0, vz, vz, vi 0, vz, vi 0, vz, vz, vz, vz, vz, vi 0, vz, vz, vi 0, vi 0, vi 0, vi 0, vi 0, vz, vz, vi 0, vz, vz, vz, vz, vz, vi 0, vz, vz, vi 0])) 83 (ci 32 (fun _ => 0))) 73 (co 12 [vr 74, vr 75, vi 0, vr 76, vi 0, vi 0, vr 77, vr 78, vr 79, vr 80, vr 81, vr 82, vi 0, vr 83, vz, vi 0, vi 0, vi 0, vz, vz, vz, vz, vi 0, vz, vz, vi 0, vz, vi 0, vi 0, vi 0, vz, vz, vi 0, vz, vi 0, vz, vz, vz, vz, vz, vi 0, vz, vz, vi 0, vi 0, vi 0, vi 0, vi 0, vz, vz, vi 0, vz, vz, vz, vz, vz, vi 0, vz, vz, vi 0])) 84 (ci 4 (fun _ => 0))) 73 (co 12 [vr 74, vr 75, vi 0, vr 76, vi 0, vi 0, vr 77, vr 78, vr 79, vr 80, vr 81, vr 82, vi 0, vr 83, vr 84, vi 0, vi 0, vi 0, vz, vz, vz, vz, vi 0, vz, vz, vi 0, vz, vi 0, vi 0, vi 0, vz, vz, vi 0, vz, vi 0, vz, vz, vz, vz, vz, vi 0, vz, vz, vi 0, vi 0, vi 0, vi 0, vi 0, vz, vz, vi 0, vz, vz, vz, vz, vz, vi 0, vz, vz, vi 0])) 85 (ci 33 (fun _ => 0))) 73 (co 12 [vr 74, vr 75, vi 0, vr 76, vi 0, vi 0, vr 77, vr 78, vr 79, vr 80, vr 81, vr 82, vi 0, vr 83, vr 84, vi 0, vi 0, vi 0, vr 85, vz, vz, vz, vi 0, vz, vz, vi 0, vz, vi 0, vi 0, vi 0, vz, vz, vi 0, vz, vi 0, vz, vz, vz, vz, vz, vi 0, vz, vz, vi 0, vi 0, vi 0, vi 0, vi 0, vz, vz, vi 0, vz, vz, vz, vz, vz, vi 0, vz, vz, vi 0])) 86 (ci 128 (fun _ => 0))) 73 (co 12 [vr 74, vr 75, vi 0, vr 76, vi 0, vi 0, vr 77, vr 78, vr 79, vr 80, vr 81, vr 82, vi 0, vr 83, vr 84, vi 0, vi 0, vi 0, vr 85, vr 86, vz, vz, vi 0, vz, vz, vi 0, vz, vi 0, vi 0, vi 0, vz, vz, vi 0, vz, vi 0, vz, vz, vz, vz, vz, vi 0, vz, vz, vi 0, vi 0, vi 0, vi 0, vi 0, vz, vz, vi 0, vz, vz, vz, vz, vz, vi 0, vz, vz, vi 0])) 87 (ci 32 (fun _ => 0))) 73 (co 12 [vr 74, vr 75, vi 0, vr 76, vi 0, vi 0, vr 77, vr 78, vr 79, vr 80, vr 81, vr 82, vi 0, vr 83, vr 84, vi 0, vi 0, vi 0, vr 85, vr 86, vr 87, vz, vi 0, vz, vz, vi 0, vz, vi 0, vi 0, vi 0, vz, vz, vi 0, vz, vi 0, vz, vz, vz, vz, vz, vi 0, vz, vz, vi 0, vi 0, vi 0, vi 0, vi 0, vz, vz, vi 0, vz, vz, vz, vz, vz, vi 0, vz, vz, vi 0])) 88 (ci 48 (fun _ => 0))) 73 (co 12 [vr 74, vr 75, vi 0, vr 76, vi 0, vi 0, vr 77, vr 78, vr 79, vr 80, vr 81, vr 82, vi 0, vr 83, vr 84, vi 0, vi 0, vi 0, vr 85, vr 86, vr 87, vr 88, vi 0, vz, vz, vi 0, vz, vi 0, vi 0, vi 0, vz, vz, vi 0, vz, vi 0, vz, vz, vz, vz, vz, vi 0, vz, vz, vi 0, vi 0, vi 0, vi 0, vi 0, vz, vz, vi 0, vz, vz, vz, vz, vz, vi 0, vz, vz, vi 0])) 89 (ci 8 (fun _ => 0))) 73 (co 12 [vr 74, vr 75, vi 0, vr 76, vi 0, vi 0, vr 77, vr 78, vr 79, vr 80, vr 81, vr 82, vi 0, vr 83, vr 84, vi 0, vi 0, vi 0, vr 85, vr 86, vr 87, vr 88, vi 0, vr 89, vz, vi 0, vz, vi 0, vi 0, vi 0, vz, vz, vi 0, vz, vi 0, vz, vz, vz, vz, vz, vi 0, vz, vz, vi 0, vi 0, vi 0, vi 0, vi 0, vz, vz, vi 0, vz, vz, vz, vz, vz, vi 0, vz, vz, vi 0])) 90 (ci 32 (fun _ => 0))) 73 (co 12 [vr 74, vr 75, vi 0, vr 76, vi 0, vi 0, vr 77, vr 78, vr 79, vr 80, vr 81, vr 82, vi 0, vr 83, vr 84, vi 0, vi 0, vi 0, vr 85, vr 86, vr 87, vr 88, vi 0, vr 89, vr 90, vi 0, vz, vi 0, vi 0, vi 0, vz, vz, vi 0, vz, vi 0, vz, vz, vz, vz, vz, vi 0, vz, vz, vi 0, vi 0, vi 0, vi 0, vi 0, vz, vz, vi 0, vz, vz, vz, vz, vz, vi 0, vz, vz, vi 0])) 91 (cl 768 (fun _ => 0))) 73 (co 12 [vr 74, vr 75, vi 0, vr 76, vi 0, vi 0, vr 77, vr 78, vr 79, vr 80, vr 81, vr 82, vi 0, vr 83, vr 84, vi 0, vi 0, vi 0, vr 85, vr 86, vr 87, vr 88, vi 0, vr 89, vr 90, vi 0, vr 91, vi 0, vi 0, vi 0, vz, vz, vi 0, vz, vi 0, vz, vz, vz, vz, vz, vi 0, vz, vz, vi 0, vi 0, vi 0, vi 0, vi 0, vz, vz, vi 0, vz, vz, vz, vz, vz, vi 0, vz, vz, vi 0])) 92 (ci 4 (fun _ => 0))) 73 (co 12 [vr 74, vr 75, vi 0, vr 76, vi 0, vi 0, vr 77, vr 78, vr 79, vr 80, vr 81, vr 82, vi 0, vr 83, vr 84, vi 0, vi 0, vi 0, vr 85, vr 86, vr 87, vr 88, vi 0, vr 89, vr 90, vi 0, vr 91, vi 0, vi 0, vi 0, vr 92, vz, vi 0, vz, vi 0, vz, vz, vz, vz, vz, vi 0, vz, vz, vi 0, vi 0, vi 0, vi 0, vi 0, vz, vz, vi 0, vz, vz, vz, vz, vz, vi 0, vz, vz, vi 0])) 93 (ci 16 (fun _ => 0))) 73 (co 12 [vr 74, vr 75, vi 0, vr 76, vi 0, vi 0, vr 77, vr 78, vr 79, vr 80, vr 81, vr 82, vi 0, vr 83, vr 84, vi 0, vi 0, vi 0, vr 85, vr 86, vr 87, vr 88, vi 0, vr 89, vr 90, vi 0, vr 91, vi 0, vi 0, vi 0, vr 92, vr 93, vi 0, vz, vi 0, vz, vz, vz, vz, vz, vi 0, vz, vz, vi 0, vi 0, vi 0, vi 0, vi 0, vz, vz, vi 0, vz, vz, vz, vz, vz, vi 0, vz, vz, vi 0])) 94 (ci 16 (fun _ => 0))) 73 (co 12 [vr 74, vr 75, vi 0, vr 76, vi 0, vi 0, vr 77, vr 78, vr 79, vr 80, vr 81, vr 82, vi 0, vr 83, vr 84, vi 0, vi 0, vi 0, vr 85, vr 86, vr 87, vr 88, vi 0, vr 89, vr 90, vi 0, vr 91, vi 0, vi 0, vi 0, vr 92, vr 93, vi 0, vr 94, vi 0, vz, vz, vz, vz, vz, vi 0, vz, vz, vi 0, vi 0, vi 0, vi 0, vi 0, vz, vz, vi 0, vz, vz, vz, vz, vz, vi 0, vz, vz, vi 0])) 95 (ci 8 (fun _ => 0))) 73 (co 12 [vr 74, vr 75, vi 0, vr 76, vi 0, vi 0, vr 77, vr 78, vr 79, vr 80, vr 81, vr 82, vi 0, vr 83, vr 84, vi 0, vi 0, vi 0, vr 85, vr 86, vr 87, vr 88, vi 0, vr 89, vr 90, vi 0, vr 91, vi 0, vi 0, vi 0, vr 92, vr 93, vi 0, vr 94, vi 0, vr 95, vz, vz, vz, vz, vi 0, vz, vz, vi 0, vi 0, vi 0, vi 0, vi 0, vz, vz, vi 0, vz, vz, vz, vz, vz, vi 0, vz, vz, vi 0])) 96 (ci 33 (fun _ => 0))) 73 (co 12 [vr 74, vr 75, vi 0, vr 76, vi 0, vi 0, vr 77, vr 78, vr 79, vr 80, vr 81, vr 82, vi 0, vr 83, vr 84, vi 0, vi 0, vi 0, vr 85, vr 86, vr 87, vr 88, vi 0, vr 89, vr 90, vi 0, vr 91, vi 0, vi 0, vi 0, vr 92, vr 93, vi 0, vr 94, vi 0, vr 95, vr 96, vz, vz, vz, vi 0, vz, vz, vi 0, vi 0, vi 0, vi 0, vi 0, vz, vz, vi 0, vz, vz, vz, vz, vz, vi 0, vz, vz, vi 0])) 97 (ci 4 (fun _ => 0))) 73 (co 12 [vr 74, vr 75, vi 0, vr 76, vi 0, vi 0, vr 77, vr 78, vr 79, vr 80, vr 81, vr 82, vi 0, vr 83, vr 84, vi 0, vi 0, vi 0, vr 85, vr 86, vr 87, vr 88, vi 0, vr 89, vr 90, vi 0, vr 91, vi 0, vi 0, vi 0, vr 92, vr 93, vi 0, vr 94, vi 0, vr 95, vr 96, vr 97, vz, vz, vi 0, vz, vz, vi 0, vi 0, vi 0, vi 0, vi 0, vz, vz, vi 0, vz, vz, vz, vz, vz, vi 0, vz, vz, vi 0])) 98 (ci 4 (fun _ => 0))) 73 (co 12 [vr 74, vr 75, vi 0, vr 76, vi 0, vi 0, vr 77, vr 78, vr 79, vr 80, vr 81, vr 82, vi 0, vr 83, vr 84, vi 0, vi 0, vi 0, vr 85, vr 86, vr 87, vr 88, vi 0, vr 89, vr 90, vi 0, vr 91, vi 0, vi 0, vi 0, vr 92, vr 93, vi 0, vr 94, vi 0, vr 95, vr 96, vr 97, vr 98, vz, vi 0, vz, vz, vi 0, vi 0, vi 0, vi 0, vi 0, vz, vz, vi 0, vz, vz, vz, vz, vz, vi 0, vz, vz, vi 0])) 99 (ci 264 (fun _ => 0))) 73 (co 12 [vr 74, vr 75, vi 0, vr 76, vi 0, vi 0, vr 77, vr 78, vr 79, vr 80, vr 81, vr 82, vi 0, vr 83, vr 84, vi 0, vi 0, vi 0, vr 85, vr 86, vr 87, vr 88, vi 0, vr 89, vr 90, vi 0, vr 91, vi 0, vi 0, vi 0, vr 92, vr 93, vi 0, vr 94, vi 0, vr 95, vr 96, vr 97, vr 98, vr 99, vi 0, vz, vz, vi 0, vi 0, vi 0, vi 0, vi 0, vz, vz, vi 0, vz, vz, vz, vz, vz, vi 0, vz, vz, vi 0])) 100 (ci 33 (fun _ => 0))) 73 (co 12 [vr 74, vr 75, vi 0, vr 76, vi 0, vi 0, vr 77, vr 78, vr 79, vr 80, vr 81, vr 82, vi 0, vr 83, vr 84, vi 0, vi 0, vi 0, vr 85, vr 86, vr 87, vr 88, vi 0, vr 89, vr 90, vi 0, vr 91, vi 0, vi 0, vi 0, vr 92, vr 93, vi 0, vr 94, vi 0, vr 95, vr 96, vr 97, vr 98, vr 99, vi 0, vr 100, vz, vi 0, vi 0, vi 0, vi 0, vi 0, vz, vz, vi 0, vz, vz, vz, vz, vz, vi 0, vz, vz, vi 0])) 101 (ci 320 (fun _ => 0))) 73 (co 12 [vr 74, vr 75, vi 0, vr 76, vi 0, vi 0, vr 77, vr 78, vr 79, vr 80, vr 81, vr 82, vi 0, vr 83, vr 84, vi 0, vi 0, vi 0, vr 85, vr 86, vr 87, vr 88, vi 0, vr 89, vr 90, vi 0, vr 91, vi 0, vi 0, vi 0, vr 92, vr 93, vi 0, vr 94, vi 0, vr 95, vr 96, vr 97, vr 98, vr 99, vi 0, vr 100, vr 101, vi 0, vi 0, vi 0, vi 0, vi 0, vz, vz, vi 0, vz, vz, vz, vz, vz, vi 0, vz, vz, vi 0])) 102 (ci 4950 (fun _ => 0))) 73 (co 12 [vr 74, vr 75, vi 0, vr 76, vi 0, vi 0, vr 77, vr 78, vr 79, vr 80, vr 81, vr 82, vi 0, vr 83, vr 84, vi 0, vi 0, vi 0, vr 85, vr 86, vr 87, vr 88, vi 0, vr 89, vr 90, vi 0, vr 91, vi 0, vi 0, vi 0, vr 92, vr 93, vi 0, vr 94, vi 0, vr 95, vr 96, vr 97, vr 98, vr 99, vi 0, vr 100, vr 101, vi 0, vi 0, vi 0, vi 0, vi 0, vr 102, vz, vi 0, vz, vz, vz, vz, vz, vi 0, vz, vz, vi 0])) 103 (ci 150 (fun _ => 0))) 73 (co 12 [vr 74, vr 75, vi 0, vr 76, vi 0, vi 0, vr 77, vr 78, vr 79, vr 80, vr 81, vr 82, vi 0, vr 83, vr 84, vi 0, vi 0, vi 0, vr 85, vr 86, vr 87, vr 88, vi 0, vr 89, vr 90, vi 0, vr 91, vi 0, vi 0, vi 0, vr 92, vr 93, vi 0, vr 94, vi 0, vr 95, vr 96, vr 97, vr 98, vr 99, vi 0, vr 100, vr 101, vi 0, vi 0, vi 0, vi 0, vi 0, vr 102, vr 103, vi 0, vz, vz, vz, vz, vz, vi 0, vz, vz, vi 0])) 104 (ci 4 (fun _ => 0))) 73 (co 12 [vr 74, vr 75, vi 0, vr 76, vi 0, vi 0, vr 77, vr 78, vr 79, vr 80, vr 81, vr 82, vi 0, vr 83, vr 84, vi 0, vi 0, vi 0, vr 85, vr 86, vr 87, vr 88, vi 0, vr 89, vr 90, vi 0, vr 91, vi 0, vi 0, vi 0, vr 92, vr 93, vi 0, vr 94, vi 0, vr 95, vr 96, vr 97, vr 98, vr 99, vi 0, vr 100, vr 101, vi 0, vi 0, vi 0, vi 0, vi 0, vr 102, vr 103, vi 0, vr 104, vz, vz, vz, vz, vi 0, vz, vz, vi 0])) 105 (ci 66 (fun _ => 0))) 73 (co 12 [vr 74, vr 75, vi 0, vr 76, vi 0, vi 0, vr 77, vr 78, vr 79, vr 80, vr 81, vr 82, vi 0, vr 83, vr 84, vi 0, vi 0, vi 0, vr 85, vr 86, vr 87, vr 88, vi 0, vr 89, vr 90, vi 0, vr 91, vi 0, vi 0, vi 0, vr 92, vr 93, vi 0, vr 94, vi 0, vr 95, vr 96, vr 97, vr 98, vr 99, vi 0, vr 100, vr 101, vi 0, vi 0, vi 0, vi 0, vi 0, vr 102, vr 103, vi 0, vr 104, vr 105, vz, vz, vz, vi 0, vz, vz, vi 0])) 106 (cz 2 (fun _ => 0))) 73 (co 12 [vr 74, vr 75, vi 0, vr 76, vi 0, vi 0, vr 77, vr 78, vr 79, vr 80, vr 81, vr 82, vi 0, vr 83, vr 84, vi 0, vi 0, vi 0, vr 85, vr 86, vr 87, vr 88, vi 0, vr 89, vr 90, vi 0, vr 91, vi 0, vi 0, vi 0, vr 92, vr 93, vi 0, vr 94, vi 0, vr 95, vr 96, vr 97, vr 98, vr 99, vi 0, vr 100, vr 101, vi 0, vi 0, vi 0, vi 0, vi 0, vr 102, vr 103, vi 0, vr 104, vr 105, vr 106, vz, vz, vi 0, vz, vz, vi 0])) 107 (ci 33 (fun _ => 0))) 73 (co 12 [vr 74, vr 75, vi 0, vr 76, vi 0, vi 0, vr 77, vr 78, vr 79, vr 80, vr 81, vr 82, vi 0, vr 83, vr 84, vi 0, vi 0, vi 0, vr 85, vr 86, vr 87, vr 88, vi 0, vr 89, vr 90, vi 0, vr 91, vi 0, vi 0, vi 0, vr 92, vr 93, vi 0, vr 94, vi 0, vr 95, vr 96, vr 97, vr 98, vr 99, vi 0, vr 100, vr 101, vi 0, vi 0, vi 0, vi 0, vi 0, vr 102, vr 103, vi 0, vr 104, vr 105, vr 106, vr 107, vz, vi 0, vz, vz, vi 0])) 108 (ci 33 (fun _ => 0))) 73 (co 12 [vr 74, vr 75, vi 0, vr 76, vi 0, vi 0, vr 77, vr 78, vr 79, vr 80, vr 81, vr 82, vi 0, vr 83, vr 84, vi 0, vi 0, vi 0, vr 85, vr 86, vr 87, vr 88, vi 0, vr 89, vr 90, vi 0, vr 91, vi 0, vi 0, vi 0, vr 92, vr 93, vi 0, vr 94, vi 0, vr 95, vr 96, vr 97, vr 98, vr 99, vi 0, vr 100, vr 101, vi 0, vi 0, vi 0, vi 0, vi 0, vr 102, vr 103, vi 0, vr 104, vr 105, vr 106, vr 107, vr 108, vi 0, vz, vz, vi 0])) 109 (ci 8 (fun _ => 0))) 73 (co 12 [vr 74, vr 75, vi 0, vr 76, vi 0, vi 0, vr 77, vr 78, vr 79, vr 80, vr 81, vr 82, vi 0, vr 83, vr 84, vi 0, vi 0, vi 0, vr 85, vr 86, vr 87, vr 88, vi 0, vr 89, vr 90, vi 0, vr 91, vi 0, vi 0, vi 0, vr 92, vr 93, vi 0, vr 94, vi 0, vr 95, vr 96, vr 97, vr 98, vr 99, vi 0, vr 100, vr 101, vi 0, vi 0, vi 0, vi 0, vi 0, vr 102, vr 103, vi 0, vr 104, vr 105, vr 106, vr 107, vr 108, vi 0, vr 109, vz, vi 0])) 110 (ci 8 (fun _ => 0))) 73 (co 12 [vr 74, vr 75, vi 0, vr 76, vi 0, vi 0, vr 77, vr 78, vr 79, vr 80, vr 81, vr 82, vi 0, vr 83, vr 84, vi 0, vi 0, vi 0, vr 85, vr 86, vr 87, vr 88, vi 0, vr 89, vr 90, vi 0, vr 91, vi 0, vi 0, vi 0, vr 92, vr 93, vi 0, vr 94, vi 0, vr 95, vr 96, vr 97, vr 98, vr 99, vi 0, vr 100, vr 101, vi 0, vi 0, vi 0, vi 0, vi 0, vr 102, vr 103, vi 0, vr 104, vr 105, vr 106, vr 107, vr 108, vi 0, vr 109, vr 110, vi 0]))
theorem ih1_73 {h : ma_H} : ih1 h 73 = co 12 (mo (fun _ => 0)) := rfl
theorem ih1_74 {h : ma_H} : ih1 h 74 = ci 33 (fun _ => 0) := rfl
set_option maxHeartbeats 2000000 in
theorem c_X12_init {h : ma_H} {d : Nat} {Q : Option ma_V → ma_H → Nat → Prop} (K : ∀ f A : Int → Int, PB f → A 0 = 1 → (∀ j, 0 ≤ j → j < 32 → A (1 + j) = -1) → Q none (ma_up (ma_up (ih1 h) 77 (ci 64 f)) 74 (ci 33 A)) 111) : ma_Ct mX12_init (d + 1) 37 7428 [vr 73] (ma_up h 73 (co 12 [vz, vz, vi 0, vz, vi 0, vi 0, vz, vz, vz, vz, vz, vz, vi 0, vz, vz, vi 0, vi 0, vi 0, vz, vz, vz, vz, vi 0, vz, vz, vi 0, vz, vi 0, vi 0, vi 0, vz, vz, vi 0, vz, vi 0, vz, vz, vz, vz, vz, vi 0, vz, vz, vi 0, vi 0, vi 0, vi 0, vi 0, vz, vz, vi 0, vz, vz, vz, vz, vz, vi 0, vz, vz, vi 0])) 74 Q := by
  refine ma_Ct.of (by decide +kernel) (Nat.le_of_ble_eq_true rfl) ?_
  refine ma_aload_n dX12_init_0 rfl ?_
  refine ma_obj dX12_init_1 lX12_3 oi_i oi_c (by omega) (Nat.le_of_ble_eq_true rfl) ?_
  refine ma_aload_n dX12_init_4 rfl ?_
  refine ma_bipush dX12_init_5 ?_
  refine ma_newa (t := 0) (n := 33) dX12_init_7 (by decide) aw_0 (by decide) (by omega) ?_
  refine ma_putFr dX12_init_9 fX12_9 rfl ⟨_, _, rfl⟩ (by rfl) (Nat.le_of_ble_eq_true rfl) ?_
  refine ma_aload_n dX12_init_12 rfl ?_
  refine ma_bipush dX12_init_13 ?_
  refine ma_newa (t := 2) (n := 80) dX12_init_15 (by decide) aw_2 (by decide) (by omega) ?_
  refine ma_putFr dX12_init_17 fX12_13 rfl ⟨_, _, rfl⟩ (by rfl) (Nat.le_of_ble_eq_true rfl) ?_
  refine ma_aload_n dX12_init_20 rfl ?_
  refine ma_bipush dX12_init_21 ?_
  refine ma_newa (t := 1) (n := 96) dX12_init_23 (by decide) aw_1 (by decide) (by omega) ?_
  refine ma_putFr dX12_init_25 fX12_17 rfl ⟨_, _, rfl⟩ (by rfl) (Nat.le_of_ble_eq_true rfl) ?_
  refine ma_aload_n dX12_init_28 rfl ?_
  refine ma_bipush dX12_init_29 ?_
  refine ma_newa (t := 0) (n := 64) dX12_init_31 (by decide) aw_0 (by decide) (by omega) ?_
  refine ma_putFr dX12_init_33 fX12_21 rfl ⟨_, _, rfl⟩ (by rfl) (Nat.le_of_ble_eq_true rfl) ?_
  refine ma_aload_n dX12_init_36 rfl ?_
  refine ma_bipush dX12_init_37 ?_
  refine ma_newa (t := 0) (n := 8) dX12_init_39 (by decide) aw_0 (by decide) (by omega) ?_
  refine ma_putFr dX12_init_41 fX12_24 rfl ⟨_, _, rfl⟩ (by rfl) (Nat.le_of_ble_eq_true rfl) ?_
  refine ma_aload_n dX12_init_44 rfl ?_
  refine ma_bipush dX12_init_45 ?_
  refine ma_newa (t := 0) (n := 32) dX12_init_47 (by decide) aw_0 (by decide) (by omega) ?_
  refine ma_putFr dX12_init_49 fX12_27 rfl ⟨_, _, rfl⟩ (by rfl) (Nat.le_of_ble_eq_true rfl) ?_
  refine ma_aload_n dX12_init_52 rfl ?_
  refine ma_bipush dX12_init_53 ?_
  refine ma_newa (t := 0) (n := 8) dX12_init_55 (by decide) aw_0 (by decide) (by omega) ?_
  refine ma_putFr dX12_init_57 fX12_30 rfl ⟨_, _, rfl⟩ (by rfl) (Nat.le_of_ble_eq_true rfl) ?_
  refine ma_aload_n dX12_init_60 rfl ?_
  refine ma_bipush dX12_init_61 ?_
  refine ma_newa (t := 0) (n := 33) dX12_init_63 (by decide) aw_0 (by decide) (by omega) ?_
  refine ma_putFr dX12_init_65 fX12_33 rfl ⟨_, _, rfl⟩ (by rfl) (Nat.le_of_ble_eq_true rfl) ?_
  refine ma_aload_n dX12_init_68 rfl ?_
  refine ma_bipush dX12_init_69 ?_
  refine ma_newa (t := 0) (n := 33) dX12_init_71 (by decide) aw_0 (by decide) (by omega) ?_
  refine ma_putFr dX12_init_73 fX12_36 rfl ⟨_, _, rfl⟩ (by rfl) (Nat.le_of_ble_eq_true rfl) ?_
  refine ma_aload_n dX12_init_76 rfl ?_
  refine ma_bipush dX12_init_77 ?_
  refine ma_newa (t := 0) (n := 32) dX12_init_79 (by decide) aw_0 (by decide) (by omega) ?_
  refine ma_putFr dX12_init_81 fX12_39 rfl ⟨_, _, rfl⟩ (by rfl) (Nat.le_of_ble_eq_true rfl) ?_
  refine ma_aload_n dX12_init_84 rfl ?_
  refine ma_iconst dX12_init_85 ?_
  refine ma_newa (t := 0) (n := 4) dX12_init_86 (by decide) aw_0 (by decide) (by omega) ?_
  refine ma_putFr dX12_init_88 fX12_42 rfl ⟨_, _, rfl⟩ (by rfl) (Nat.le_of_ble_eq_true rfl) ?_
  refine ma_aload_n dX12_init_91 rfl ?_
  refine ma_bipush dX12_init_92 ?_
  refine ma_newa (t := 0) (n := 33) dX12_init_94 (by decide) aw_0 (by decide) (by omega) ?_
  refine ma_putFr dX12_init_96 fX12_45 rfl ⟨_, _, rfl⟩ (by rfl) (Nat.le_of_ble_eq_true rfl) ?_
  refine ma_aload_n dX12_init_99 rfl ?_
  refine ma_sipush dX12_init_100 ?_
  refine ma_newa (t := 0) (n := 128) dX12_init_103 (by decide) aw_0 (by decide) (by omega) ?_
  refine ma_putFr dX12_init_105 fX12_48 rfl ⟨_, _, rfl⟩ (by rfl) (Nat.le_of_ble_eq_true rfl) ?_
  refine ma_aload_n dX12_init_108 rfl ?_
  refine ma_bipush dX12_init_109 ?_
  refine ma_newa (t := 0) (n := 32) dX12_init_111 (by decide) aw_0 (by decide) (by omega) ?_
  refine ma_putFr dX12_init_113 fX12_51 rfl ⟨_, _, rfl⟩ (by rfl) (Nat.le_of_ble_eq_true rfl) ?_
  refine ma_aload_n dX12_init_116 rfl ?_
  refine ma_bipush dX12_init_117 ?_
  refine ma_newa (t := 0) (n := 48) dX12_init_119 (by decide) aw_0 (by decide) (by omega) ?_
  refine ma_putFr dX12_init_121 fX12_54 rfl ⟨_, _, rfl⟩ (by rfl) (Nat.le_of_ble_eq_true rfl) ?_
  refine ma_aload_n dX12_init_124 rfl ?_
  refine ma_bipush dX12_init_125 ?_
  refine ma_newa (t := 0) (n := 8) dX12_init_127 (by decide) aw_0 (by decide) (by omega) ?_
  refine ma_putFr dX12_init_129 fX12_57 rfl ⟨_, _, rfl⟩ (by rfl) (Nat.le_of_ble_eq_true rfl) ?_
  refine ma_aload_n dX12_init_132 rfl ?_
  refine ma_bipush dX12_init_133 ?_
  refine ma_newa (t := 0) (n := 32) dX12_init_135 (by decide) aw_0 (by decide) (by omega) ?_
  refine ma_putFr dX12_init_137 fX12_60 rfl ⟨_, _, rfl⟩ (by rfl) (Nat.le_of_ble_eq_true rfl) ?_
  refine ma_aload_n dX12_init_140 rfl ?_
  refine ma_sipush dX12_init_141 ?_
  refine ma_newa (t := 1) (n := 768) dX12_init_144 (by decide) aw_1 (by decide) (by omega) ?_
  refine ma_putFr dX12_init_146 fX12_63 rfl ⟨_, _, rfl⟩ (by rfl) (Nat.le_of_ble_eq_true rfl) ?_
  refine ma_aload_n dX12_init_149 rfl ?_
  refine ma_iconst dX12_init_150 ?_
  refine ma_newa (t := 0) (n := 4) dX12_init_151 (by decide) aw_0 (by decide) (by omega) ?_
  refine ma_putFr dX12_init_153 fX12_66 rfl ⟨_, _, rfl⟩ (by rfl) (Nat.le_of_ble_eq_true rfl) ?_
  refine ma_aload_n dX12_init_156 rfl ?_
  refine ma_bipush dX12_init_157 ?_
  refine ma_newa (t := 0) (n := 16) dX12_init_159 (by decide) aw_0 (by decide) (by omega) ?_
  refine ma_putFr dX12_init_161 fX12_69 rfl ⟨_, _, rfl⟩ (by rfl) (Nat.le_of_ble_eq_true rfl) ?_
  refine ma_aload_n dX12_init_164 rfl ?_
  refine ma_bipush dX12_init_165 ?_
  refine ma_newa (t := 0) (n := 16) dX12_init_167 (by decide) aw_0 (by decide) (by omega) ?_
  refine ma_putFr dX12_init_169 fX12_72 rfl ⟨_, _, rfl⟩ (by rfl) (Nat.le_of_ble_eq_true rfl) ?_
  refine ma_aload_n dX12_init_172 rfl ?_
  refine ma_bipush dX12_init_173 ?_
  refine ma_newa (t := 0) (n := 8) dX12_init_175 (by decide) aw_0 (by decide) (by omega) ?_
  refine ma_putFr dX12_init_177 fX12_75 rfl ⟨_, _, rfl⟩ (by rfl) (Nat.le_of_ble_eq_true rfl) ?_
  refine ma_aload_n dX12_init_180 rfl ?_
  refine ma_bipush dX12_init_181 ?_
  refine ma_newa (t := 0) (n := 33) dX12_init_183 (by decide) aw_0 (by decide) (by omega) ?_
  refine ma_putFr dX12_init_185 fX12_78 rfl ⟨_, _, rfl⟩ (by rfl) (Nat.le_of_ble_eq_true rfl) ?_
  refine ma_aload_n dX12_init_188 rfl ?_
  refine ma_iconst dX12_init_189 ?_
  refine ma_newa (t := 0) (n := 4) dX12_init_190 (by decide) aw_0 (by decide) (by omega) ?_
  refine ma_putFr dX12_init_192 fX12_81 rfl ⟨_, _, rfl⟩ (by rfl) (Nat.le_of_ble_eq_true rfl) ?_
  refine ma_aload_n dX12_init_195 rfl ?_
  refine ma_iconst dX12_init_196 ?_
  refine ma_newa (t := 0) (n := 4) dX12_init_197 (by decide) aw_0 (by decide) (by omega) ?_
  refine ma_putFr dX12_init_199 fX12_84 rfl ⟨_, _, rfl⟩ (by rfl) (Nat.le_of_ble_eq_true rfl) ?_
  refine ma_aload_n dX12_init_202 rfl ?_
  refine ma_sipush dX12_init_203 ?_
  refine ma_newa (t := 0) (n := 264) dX12_init_206 (by decide) aw_0 (by decide) (by omega) ?_
  refine ma_putFr dX12_init_208 fX12_87 rfl ⟨_, _, rfl⟩ (by rfl) (Nat.le_of_ble_eq_true rfl) ?_
  refine ma_aload_n dX12_init_211 rfl ?_
  refine ma_bipush dX12_init_212 ?_
  refine ma_newa (t := 0) (n := 33) dX12_init_214 (by decide) aw_0 (by decide) (by omega) ?_
  refine ma_putFr dX12_init_216 fX12_90 rfl ⟨_, _, rfl⟩ (by rfl) (Nat.le_of_ble_eq_true rfl) ?_
  refine ma_aload_n dX12_init_219 rfl ?_
  refine ma_sipush dX12_init_220 ?_
  refine ma_newa (t := 0) (n := 320) dX12_init_223 (by decide) aw_0 (by decide) (by omega) ?_
  refine ma_putFr dX12_init_225 fX12_93 rfl ⟨_, _, rfl⟩ (by rfl) (Nat.le_of_ble_eq_true rfl) ?_
  refine ma_aload_n dX12_init_228 rfl ?_
  refine ma_sipush dX12_init_229 ?_
  refine ma_newa (t := 0) (n := 4950) dX12_init_232 (by decide) aw_0 (by decide) (by omega) ?_
  refine ma_putFr dX12_init_234 fX12_96 rfl ⟨_, _, rfl⟩ (by rfl) (Nat.le_of_ble_eq_true rfl) ?_
  refine ma_aload_n dX12_init_237 rfl ?_
  refine ma_sipush dX12_init_238 ?_
  refine ma_newa (t := 0) (n := 150) dX12_init_241 (by decide) aw_0 (by decide) (by omega) ?_
  refine ma_putFr dX12_init_243 fX12_99 rfl ⟨_, _, rfl⟩ (by rfl) (Nat.le_of_ble_eq_true rfl) ?_
  refine ma_aload_n dX12_init_246 rfl ?_
  refine ma_iconst dX12_init_247 ?_
  refine ma_newa (t := 0) (n := 4) dX12_init_248 (by decide) aw_0 (by decide) (by omega) ?_
  refine ma_putFr dX12_init_250 fX12_102 rfl ⟨_, _, rfl⟩ (by rfl) (Nat.le_of_ble_eq_true rfl) ?_
  refine ma_aload_n dX12_init_253 rfl ?_
  refine ma_bipush dX12_init_254 ?_
  refine ma_newa (t := 0) (n := 66) dX12_init_256 (by decide) aw_0 (by decide) (by omega) ?_
  refine ma_putFr dX12_init_258 fX12_105 rfl ⟨_, _, rfl⟩ (by rfl) (Nat.le_of_ble_eq_true rfl) ?_
  refine ma_aload_n dX12_init_261 rfl ?_
  refine ma_iconst dX12_init_262 ?_
  refine ma_newa (t := 3) (n := 2) dX12_init_263 (by decide) aw_3 (by decide) (by omega) ?_
  refine ma_putFr dX12_init_265 fX12_108 rfl ⟨_, _, rfl⟩ (by rfl) (Nat.le_of_ble_eq_true rfl) ?_
  refine ma_aload_n dX12_init_268 rfl ?_
  refine ma_bipush dX12_init_269 ?_
  refine ma_newa (t := 0) (n := 33) dX12_init_271 (by decide) aw_0 (by decide) (by omega) ?_
  refine ma_putFr dX12_init_273 fX12_112 rfl ⟨_, _, rfl⟩ (by rfl) (Nat.le_of_ble_eq_true rfl) ?_
  refine ma_aload_n dX12_init_276 rfl ?_
  refine ma_bipush dX12_init_277 ?_
  refine ma_newa (t := 0) (n := 33) dX12_init_279 (by decide) aw_0 (by decide) (by omega) ?_
  refine ma_putFr dX12_init_281 fX12_115 rfl ⟨_, _, rfl⟩ (by rfl) (Nat.le_of_ble_eq_true rfl) ?_
  refine ma_aload_n dX12_init_284 rfl ?_
  refine ma_bipush dX12_init_285 ?_
  refine ma_newa (t := 0) (n := 8) dX12_init_287 (by decide) aw_0 (by decide) (by omega) ?_
  refine ma_putFr dX12_init_289 fX12_118 rfl ⟨_, _, rfl⟩ (by rfl) (Nat.le_of_ble_eq_true rfl) ?_
  refine ma_aload_n dX12_init_292 rfl ?_
  refine ma_bipush dX12_init_293 ?_
  refine ma_newa (t := 0) (n := 8) dX12_init_295 (by decide) aw_0 (by decide) (by omega) ?_
  refine ma_putFr dX12_init_297 fX12_121 rfl ⟨_, _, rfl⟩ (by rfl) (Nat.le_of_ble_eq_true rfl) ?_
  refine ma_iconst dX12_init_300 ?_
  refine ma_istore_nN dX12_init_301 (by decide) rfl ?_
  refine cast (congrArg (fun x => ma_J none mX12_init (d + 1) 0 0 302 [some (vr 73), some (vi 0)] [] x 111 Q) ?_) (l_X12_init_302 (h := ih1 h) ih1_73 ?_ 25 0 (fun _ => 0) (by decide) (by decide) (by decide) (fun p p0 p1 => by omega))
  · exact ma_up_id rfl
  intro f hf
  refine ma_aload_n dX12_init_342 rfl ?_
  refine ma_getf dX12_init_343 fX12_9 (by first | exact ih1_73 | exact (ma_up_n (by decide)).trans ih1_73 | exact (ma_up_n (by decide)).trans ih1_74) (by rfl) ?_
  refine ma_iconst dX12_init_346 ?_
  refine ma_iconst dX12_init_347 ?_
  refine ma_iast dX12_init_348 (by first | exact ih1_73 | exact (ma_up_n (by decide)).trans ih1_73 | exact (ma_up_n (by decide)).trans ih1_74) (by omega) (by omega) (by omega) ?_
  refine ma_iconst dX12_init_349 ?_
  refine ma_istore_nN dX12_init_350 (by decide) rfl ?_
  exact l_X12_init_351 ((ma_up_n (by decide)).trans ih1_73) (fun A a1 a2 => K f A hf a1 a2) 33 1 _ (by decide) (by decide) (by decide) (uf_s _ _ _) (fun p p0 p1 => by omega)
