def bh (h : ma_H) (E : Int → Int) (X : Int → Int) (D : Int → Int) (F : Int → Int) (P : Int → Int) (Z : Int → Int) (N : Int → Int) (S : Int → Int) (q : Int → Int) (ec : Int) (pc : Int) : ma_H := ma_up (ma_up (ma_up (ma_up (ma_up (ma_up (ma_up (ma_up (ma_up (ma_up h 45 (ci 128 E)) 46 (ci 128 X)) 47 (ci 128 D)) 48 (cz 128 F)) 49 (ci 32 P)) 50 (ci 32 Z)) 51 (ci 32 N)) 52 (ci 32 S)) 53 (ci 128 q)) 44 (co 7 [vr 45, vr 46, vr 47, vr 48, vr 49, vr 50, vr 51, vr 52, vi ec, vi pc, vr 53])
theorem bh_45 {h : ma_H} {E : Int → Int} {X : Int → Int} {D : Int → Int} {F : Int → Int} {P : Int → Int} {Z : Int → Int} {N : Int → Int} {S : Int → Int} {q : Int → Int} {ec : Int} {pc : Int} : bh h E X D F P Z N S q ec pc 45 = ci 128 E := rfl
theorem bh_46 {h : ma_H} {E : Int → Int} {X : Int → Int} {D : Int → Int} {F : Int → Int} {P : Int → Int} {Z : Int → Int} {N : Int → Int} {S : Int → Int} {q : Int → Int} {ec : Int} {pc : Int} : bh h E X D F P Z N S q ec pc 46 = ci 128 X := rfl
theorem bh_47 {h : ma_H} {E : Int → Int} {X : Int → Int} {D : Int → Int} {F : Int → Int} {P : Int → Int} {Z : Int → Int} {N : Int → Int} {S : Int → Int} {q : Int → Int} {ec : Int} {pc : Int} : bh h E X D F P Z N S q ec pc 47 = ci 128 D := rfl
theorem bh_48 {h : ma_H} {E : Int → Int} {X : Int → Int} {D : Int → Int} {F : Int → Int} {P : Int → Int} {Z : Int → Int} {N : Int → Int} {S : Int → Int} {q : Int → Int} {ec : Int} {pc : Int} : bh h E X D F P Z N S q ec pc 48 = cz 128 F := rfl
theorem bh_49 {h : ma_H} {E : Int → Int} {X : Int → Int} {D : Int → Int} {F : Int → Int} {P : Int → Int} {Z : Int → Int} {N : Int → Int} {S : Int → Int} {q : Int → Int} {ec : Int} {pc : Int} : bh h E X D F P Z N S q ec pc 49 = ci 32 P := rfl
theorem bh_50 {h : ma_H} {E : Int → Int} {X : Int → Int} {D : Int → Int} {F : Int → Int} {P : Int → Int} {Z : Int → Int} {N : Int → Int} {S : Int → Int} {q : Int → Int} {ec : Int} {pc : Int} : bh h E X D F P Z N S q ec pc 50 = ci 32 Z := rfl
theorem bh_51 {h : ma_H} {E : Int → Int} {X : Int → Int} {D : Int → Int} {F : Int → Int} {P : Int → Int} {Z : Int → Int} {N : Int → Int} {S : Int → Int} {q : Int → Int} {ec : Int} {pc : Int} : bh h E X D F P Z N S q ec pc 51 = ci 32 N := rfl
theorem bh_52 {h : ma_H} {E : Int → Int} {X : Int → Int} {D : Int → Int} {F : Int → Int} {P : Int → Int} {Z : Int → Int} {N : Int → Int} {S : Int → Int} {q : Int → Int} {ec : Int} {pc : Int} : bh h E X D F P Z N S q ec pc 52 = ci 32 S := rfl
theorem bh_53 {h : ma_H} {E : Int → Int} {X : Int → Int} {D : Int → Int} {F : Int → Int} {P : Int → Int} {Z : Int → Int} {N : Int → Int} {S : Int → Int} {q : Int → Int} {ec : Int} {pc : Int} : bh h E X D F P Z N S q ec pc 53 = ci 128 q := rfl
theorem bh_44 {h : ma_H} {E : Int → Int} {X : Int → Int} {D : Int → Int} {F : Int → Int} {P : Int → Int} {Z : Int → Int} {N : Int → Int} {S : Int → Int} {q : Int → Int} {ec : Int} {pc : Int} : bh h E X D F P Z N S q ec pc 44 = co 7 [vr 45, vr 46, vr 47, vr 48, vr 49, vr 50, vr 51, vr 52, vi ec, vi pc, vr 53] := rfl
theorem bh_n {h : ma_H} {E : Int → Int} {X : Int → Int} {D : Int → Int} {F : Int → Int} {P : Int → Int} {Z : Int → Int} {N : Int → Int} {S : Int → Int} {q : Int → Int} {ec : Int} {pc : Int} {k : Nat} (hk : k < 44 ∨ 53 < k) : bh h E X D F P Z N S q ec pc k = h k := by
  unfold bh
  rw [ma_up_n (by omega), ma_up_n (by omega), ma_up_n (by omega), ma_up_n (by omega), ma_up_n (by omega), ma_up_n (by omega), ma_up_n (by omega), ma_up_n (by omega), ma_up_n (by omega), ma_up_n (by omega)]
theorem bh_p45 {h : ma_H} {E : Int → Int} {X : Int → Int} {D : Int → Int} {F : Int → Int} {P : Int → Int} {Z : Int → Int} {N : Int → Int} {S : Int → Int} {q : Int → Int} {ec : Int} {pc : Int} {E' : Int → Int} : ma_up (bh h E X D F P Z N S q ec pc) 45 (ci 128 E') = bh h E' X D F P Z N S q ec pc := by
  unfold bh
  rw [ma_up_cm _ _ _ (by decide : 44 ≠ 45), ma_up_cm _ _ _ (by decide : 53 ≠ 45), ma_up_cm _ _ _ (by decide : 52 ≠ 45), ma_up_cm _ _ _ (by decide : 51 ≠ 45), ma_up_cm _ _ _ (by decide : 50 ≠ 45), ma_up_cm _ _ _ (by decide : 49 ≠ 45), ma_up_cm _ _ _ (by decide : 48 ≠ 45), ma_up_cm _ _ _ (by decide : 47 ≠ 45), ma_up_cm _ _ _ (by decide : 46 ≠ 45), ma_up_up]
theorem bh_p46 {h : ma_H} {E : Int → Int} {X : Int → Int} {D : Int → Int} {F : Int → Int} {P : Int → Int} {Z : Int → Int} {N : Int → Int} {S : Int → Int} {q : Int → Int} {ec : Int} {pc : Int} {X' : Int → Int} : ma_up (bh h E X D F P Z N S q ec pc) 46 (ci 128 X') = bh h E X' D F P Z N S q ec pc := by
  unfold bh
  rw [ma_up_cm _ _ _ (by decide : 44 ≠ 46), ma_up_cm _ _ _ (by decide : 53 ≠ 46), ma_up_cm _ _ _ (by decide : 52 ≠ 46), ma_up_cm _ _ _ (by decide : 51 ≠ 46), ma_up_cm _ _ _ (by decide : 50 ≠ 46), ma_up_cm _ _ _ (by decide : 49 ≠ 46), ma_up_cm _ _ _ (by decide : 48 ≠ 46), ma_up_cm _ _ _ (by decide : 47 ≠ 46), ma_up_up]
theorem bh_p47 {h : ma_H} {E : Int → Int} {X : Int → Int} {D : Int → Int} {F : Int → Int} {P : Int → Int} {Z : Int → Int} {N : Int → Int} {S : Int → Int} {q : Int → Int} {ec : Int} {pc : Int} {D' : Int → Int} : ma_up (bh h E X D F P Z N S q ec pc) 47 (ci 128 D') = bh h E X D' F P Z N S q ec pc := by
  unfold bh
  rw [ma_up_cm _ _ _ (by decide : 44 ≠ 47), ma_up_cm _ _ _ (by decide : 53 ≠ 47), ma_up_cm _ _ _ (by decide : 52 ≠ 47), ma_up_cm _ _ _ (by decide : 51 ≠ 47), ma_up_cm _ _ _ (by decide : 50 ≠ 47), ma_up_cm _ _ _ (by decide : 49 ≠ 47), ma_up_cm _ _ _ (by decide : 48 ≠ 47), ma_up_up]
theorem bh_p48 {h : ma_H} {E : Int → Int} {X : Int → Int} {D : Int → Int} {F : Int → Int} {P : Int → Int} {Z : Int → Int} {N : Int → Int} {S : Int → Int} {q : Int → Int} {ec : Int} {pc : Int} {F' : Int → Int} : ma_up (bh h E X D F P Z N S q ec pc) 48 (cz 128 F') = bh h E X D F' P Z N S q ec pc := by
  unfold bh
  rw [ma_up_cm _ _ _ (by decide : 44 ≠ 48), ma_up_cm _ _ _ (by decide : 53 ≠ 48), ma_up_cm _ _ _ (by decide : 52 ≠ 48), ma_up_cm _ _ _ (by decide : 51 ≠ 48), ma_up_cm _ _ _ (by decide : 50 ≠ 48), ma_up_cm _ _ _ (by decide : 49 ≠ 48), ma_up_up]
theorem bh_p49 {h : ma_H} {E : Int → Int} {X : Int → Int} {D : Int → Int} {F : Int → Int} {P : Int → Int} {Z : Int → Int} {N : Int → Int} {S : Int → Int} {q : Int → Int} {ec : Int} {pc : Int} {P' : Int → Int} : ma_up (bh h E X D F P Z N S q ec pc) 49 (ci 32 P') = bh h E X D F P' Z N S q ec pc := by
  unfold bh
  rw [ma_up_cm _ _ _ (by decide : 44 ≠ 49), ma_up_cm _ _ _ (by decide : 53 ≠ 49), ma_up_cm _ _ _ (by decide : 52 ≠ 49), ma_up_cm _ _ _ (by decide : 51 ≠ 49), ma_up_cm _ _ _ (by decide : 50 ≠ 49), ma_up_up]
theorem bh_p50 {h : ma_H} {E : Int → Int} {X : Int → Int} {D : Int → Int} {F : Int → Int} {P : Int → Int} {Z : Int → Int} {N : Int → Int} {S : Int → Int} {q : Int → Int} {ec : Int} {pc : Int} {Z' : Int → Int} : ma_up (bh h E X D F P Z N S q ec pc) 50 (ci 32 Z') = bh h E X D F P Z' N S q ec pc := by
  unfold bh
  rw [ma_up_cm _ _ _ (by decide : 44 ≠ 50), ma_up_cm _ _ _ (by decide : 53 ≠ 50), ma_up_cm _ _ _ (by decide : 52 ≠ 50), ma_up_cm _ _ _ (by decide : 51 ≠ 50), ma_up_up]
theorem bh_p51 {h : ma_H} {E : Int → Int} {X : Int → Int} {D : Int → Int} {F : Int → Int} {P : Int → Int} {Z : Int → Int} {N : Int → Int} {S : Int → Int} {q : Int → Int} {ec : Int} {pc : Int} {N' : Int → Int} : ma_up (bh h E X D F P Z N S q ec pc) 51 (ci 32 N') = bh h E X D F P Z N' S q ec pc := by
  unfold bh
  rw [ma_up_cm _ _ _ (by decide : 44 ≠ 51), ma_up_cm _ _ _ (by decide : 53 ≠ 51), ma_up_cm _ _ _ (by decide : 52 ≠ 51), ma_up_up]
theorem bh_p52 {h : ma_H} {E : Int → Int} {X : Int → Int} {D : Int → Int} {F : Int → Int} {P : Int → Int} {Z : Int → Int} {N : Int → Int} {S : Int → Int} {q : Int → Int} {ec : Int} {pc : Int} {S' : Int → Int} : ma_up (bh h E X D F P Z N S q ec pc) 52 (ci 32 S') = bh h E X D F P Z N S' q ec pc := by
  unfold bh
  rw [ma_up_cm _ _ _ (by decide : 44 ≠ 52), ma_up_cm _ _ _ (by decide : 53 ≠ 52), ma_up_up]
theorem bh_p53 {h : ma_H} {E : Int → Int} {X : Int → Int} {D : Int → Int} {F : Int → Int} {P : Int → Int} {Z : Int → Int} {N : Int → Int} {S : Int → Int} {q : Int → Int} {ec : Int} {pc : Int} {q' : Int → Int} : ma_up (bh h E X D F P Z N S q ec pc) 53 (ci 128 q') = bh h E X D F P Z N S q' ec pc := by
  unfold bh
  rw [ma_up_cm _ _ _ (by decide : 44 ≠ 53), ma_up_up]
theorem bh_p44 {h : ma_H} {E : Int → Int} {X : Int → Int} {D : Int → Int} {F : Int → Int} {P : Int → Int} {Z : Int → Int} {N : Int → Int} {S : Int → Int} {q : Int → Int} {ec : Int} {pc : Int} {ec' : Int} {pc' : Int} : ma_up (bh h E X D F P Z N S q ec pc) 44 (co 7 [vr 45, vr 46, vr 47, vr 48, vr 49, vr 50, vr 51, vr 52, vi ec', vi pc', vr 53]) = bh h E X D F P Z N S q ec' pc' := by
  unfold bh
  rw [ma_up_up]
theorem bh_of {h : ma_H} {E : Int → Int} {X : Int → Int} {D : Int → Int} {F : Int → Int} {P : Int → Int} {Z : Int → Int} {N : Int → Int} {S : Int → Int} {q : Int → Int} {ec : Int} {pc : Int} (e45 : h 45 = ci 128 E) (e46 : h 46 = ci 128 X) (e47 : h 47 = ci 128 D) (e48 : h 48 = cz 128 F) (e49 : h 49 = ci 32 P) (e50 : h 50 = ci 32 Z) (e51 : h 51 = ci 32 N) (e52 : h 52 = ci 32 S) (e53 : h 53 = ci 128 q) (e44 : h 44 = co 7 [vr 45, vr 46, vr 47, vr 48, vr 49, vr 50, vr 51, vr 52, vi ec, vi pc, vr 53]) : h = bh h E X D F P Z N S q ec pc := by
  unfold bh
  rw [ma_up_id e45, ma_up_id e46, ma_up_id e47, ma_up_id e48, ma_up_id e49, ma_up_id e50, ma_up_id e51, ma_up_id e52, ma_up_id e53, ma_up_id e44]
/-- the other end of the same edge of a tet -/
def tr (x : Int) : Int := 16 * (x / 16) + 4 * (x % 4) + x / 4 % 4
theorem tr_p (x : Int) : tr x / 16 = x / 16 ∧ tr x / 4 % 4 = x % 4 ∧ tr x % 4 = x / 4 % 4 := by
  unfold tr
  have a := Int.emod_nonneg x (show (4 : Int) ≠ 0 by omega)
  have b := Int.emod_lt_of_pos x (show (0 : Int) < 4 by omega)
  have c := Int.emod_nonneg (x / 4) (show (4 : Int) ≠ 0 by omega)
  have d := Int.emod_lt_of_pos (x / 4) (show (0 : Int) < 4 by omega)
  generalize x % 4 = u at *
  generalize x / 4 % 4 = v at *
  generalize x / 16 = w at *
  refine ⟨by omega, ?_, by omega⟩
  rw [show (16 * w + 4 * u + v) / 4 = 4 * w + u by omega]
  omega
theorem tr_tr (x : Int) : tr (tr x) = x := by
  obtain ⟨a, b, c⟩ := tr_p x
  show 16 * (tr x / 16) + 4 * (tr x % 4) + tr x / 4 % 4 = x
  rw [a, b, c]
  have : x / 4 / 4 = x / 16 := by omega
  omega
theorem tn_tr : ∀ x : Nat, x < 128 → bi_or (bi_or (bi_and x 112) (x % 4 * 4)) ((x : Int) / 4 % 4) = tr x := by decide +kernel
theorem tn_28 : ∀ x : Nat, x < 32 → bi_and x 28 = 4 * ((x : Int) / 4) := by decide +kernel
theorem tr_or {x : Int} (h0 : 0 ≤ x) (h1 : x < 128) : bi_or (bi_or (bi_and x 112) (x % 4 * 4)) (x / 4 % 4) = tr x := pm_nat (P := fun x => bi_or (bi_or (bi_and x 112) (x % 4 * 4)) (x / 4 % 4) = tr x) (n := 128) tn_tr h0 h1
theorem tr_28 {x : Int} (h0 : 0 ≤ x) (h1 : x < 32) : bi_and x 28 = 4 * (x / 4) := pm_nat (P := fun x => bi_and x 28 = 4 * (x / 4)) (n := 32) tn_28 h0 h1
theorem c_X7_turned {h : ma_H} {nx d : Nat} {x : Int} {Q : Option ma_V → ma_H → Nat → Prop} (hx : 0 ≤ x ∧ x < 128) (K : Q (some (vi (tr x))) h nx) : ma_Ct mX7_turned d 0 0 [vi x] h nx Q := by
  refine ma_Ct.of (by decide +kernel) (Nat.le_of_ble_eq_true rfl) ?_
  refine ma_iload_n dX7_turned_0 rfl ?_
  refine ma_bipush dX7_turned_1 ?_
  refine ma_iand dX7_turned_3 ?_
  refine ma_iload_n dX7_turned_4 rfl ?_
  refine ma_iconst dX7_turned_5 ?_
  refine ma_kand 2 4 dX7_turned_6 (by decide) (by decide +kernel) (by decide) ?_
  refine ma_iconst dX7_turned_7 ?_
  refine ma_kshl 4 dX7_turned_8 (by decide) ?_
  refine ma_ior dX7_turned_9 ?_
  refine ma_iload_n dX7_turned_10 rfl ?_
  refine ma_iconst dX7_turned_11 ?_
  refine ma_kshr 4 dX7_turned_12 (by decide) (by constructor <;> omega) ?_
  refine ma_iconst dX7_turned_13 ?_
  refine ma_kand 2 4 dX7_turned_14 (by decide) (by decide +kernel) (by decide) ?_
  refine ma_ior dX7_turned_15 ?_
  rw [tr_or hx.1 hx.2]
  exact ma_iret dX7_turned_16 rfl K
theorem l_X7_clear_58 {h : ma_H} {nx d : Nat} {E X D P Z N S q : Int → Int} {ec pc : Int} {Q : Option ma_V → ma_H → Nat → Prop} (K : Q none (bh h E X D (fun _ => 0) P Z N S q 0 0) nx) :
    ∀ (m : Nat) (i : Int) (F : Int → Int), 0 ≤ i → i ≤ 128 → 128 - i < m → (∀ j, 0 ≤ j → j < i → F j = 0) → ma_J none mX7_clear (d + 1) 0 0 58 [some (vr 44), some (vi i)] [] (bh h E X D F P Z N S q ec pc) nx Q := by
  intro m
  induction m with
  | zero => intro i F h0 h1 h2; omega
  | succ m ih =>
    intro i F h0 h1 h2 hF
    refine ma_iload_n dX7_clear_58 rfl ?_
    refine ma_sipush dX7_clear_59 ?_
    refine ma_rcmp_ge 78 dX7_clear_62 rfl (by constructor <;> omega) (by constructor <;> omega) (fun c62 => ?_) (fun c62 => ?_)
    · -- 78
      refine ma_ext (fun _ => 0) bh_48 (fun j j0 j1 => hF j j0 (by omega)) ?_
      rw [bh_p48]
      refine ma_aload_n dX7_clear_78 rfl ?_
      refine ma_iconst dX7_clear_79 ?_
      refine ma_puti dX7_clear_80 fX7_69 (by first | exact bh_45 | exact bh_46 | exact bh_47 | exact bh_48 | exact bh_49 | exact bh_50 | exact bh_51 | exact bh_52 | exact bh_53 | exact bh_44 | exact (bh_n (by first | assumption | omega)).trans (by assumption)) (Nat.le_of_ble_eq_true rfl) ?_
      rw [show ([vr 45, vr 46, vr 47, vr 48, vr 49, vr 50, vr 51, vr 52, vi ec, vi pc, vr 53] : List ma_V).set 8 (vi 0) = [vr 45, vr 46, vr 47, vr 48, vr 49, vr 50, vr 51, vr 52, vi 0, vi pc, vr 53] from rfl, bh_p44]
      refine ma_aload_n dX7_clear_83 rfl ?_
      refine ma_iconst dX7_clear_84 ?_
      refine ma_puti dX7_clear_85 fX7_72 (by first | exact bh_45 | exact bh_46 | exact bh_47 | exact bh_48 | exact bh_49 | exact bh_50 | exact bh_51 | exact bh_52 | exact bh_53 | exact bh_44 | exact (bh_n (by first | assumption | omega)).trans (by assumption)) (Nat.le_of_ble_eq_true rfl) ?_
      rw [show ([vr 45, vr 46, vr 47, vr 48, vr 49, vr 50, vr 51, vr 52, vi 0, vi pc, vr 53] : List ma_V).set 9 (vi 0) = [vr 45, vr 46, vr 47, vr 48, vr 49, vr 50, vr 51, vr 52, vi 0, vi 0, vr 53] from rfl, bh_p44]
      exact ma_vret dX7_clear_88 rfl K
    · -- 65
      refine ma_aload_n dX7_clear_65 rfl ?_
      refine ma_getf dX7_clear_66 fX7_21 (by first | exact bh_45 | exact bh_46 | exact bh_47 | exact bh_48 | exact bh_49 | exact bh_50 | exact bh_51 | exact bh_52 | exact bh_53 | exact bh_44 | exact (bh_n (by first | assumption | omega)).trans (by assumption)) (by rfl) ?_
      refine ma_iload_n dX7_clear_69 rfl ?_
      refine ma_iconst dX7_clear_70 ?_
      refine ma_zast dX7_clear_71 (by first | exact bh_45 | exact bh_46 | exact bh_47 | exact bh_48 | exact bh_49 | exact bh_50 | exact bh_51 | exact bh_52 | exact bh_53 | exact bh_44 | exact (bh_n (by first | assumption | omega)).trans (by assumption)) (by omega) (by omega) (by omega) ?_
      rw [bh_p48]
      refine ma_iincN dX7_clear_72 rfl (by decide) rfl ?_
      refine ma_goto 58 dX7_clear_75 rfl ?_
      exact ih (i + 1) _ (by omega) (by omega) (by omega) (fun j j0 j1 => by
        by_cases z : j = i
        · rw [z, uf_s]; decide +kernel
        · rw [uf_n z]; exact hF j j0 (by omega))
theorem c_X7_clear {h : ma_H} {nx d : Nat} {E X D F P Z N S q : Int → Int} {ec pc : Int} {Q : Option ma_V → ma_H → Nat → Prop} (K : Q none (bh h (fun _ => -1) (fun _ => -1) (fun _ => 0) (fun _ => 0) (fun _ => -1) (fun _ => 0) (fun _ => 0) (fun _ => 0) q 0 0) nx) : ma_Ct mX7_clear (d + 1) 0 0 [vr 44] (bh h E X D F P Z N S q ec pc) nx Q := by
  refine ma_Ct.of (by decide +kernel) (Nat.le_of_ble_eq_true rfl) ?_
  refine ma_aload_n dX7_clear_0 rfl ?_
  refine ma_getf dX7_clear_1 fX7_11 (by first | exact bh_45 | exact bh_46 | exact bh_47 | exact bh_48 | exact bh_49 | exact bh_50 | exact bh_51 | exact bh_52 | exact bh_53 | exact bh_44 | exact (bh_n (by first | assumption | omega)).trans (by assumption)) (by rfl) ?_
  refine ma_iconst dX7_clear_4 ?_
  refine ma_cS [_, _] dX7_clear_5 wJ7_fill_53178 lX7_63 tJ7_fill_53178 (Nat.le_of_ble_eq_true rfl) ?_
  refine c_J7_fill_53178 bh_45 (by decide) ?_
  rw [bh_p45]
  refine ma_aload_n dX7_clear_8 rfl ?_
  refine ma_getf dX7_clear_9 fX7_15 (by first | exact bh_45 | exact bh_46 | exact bh_47 | exact bh_48 | exact bh_49 | exact bh_50 | exact bh_51 | exact bh_52 | exact bh_53 | exact bh_44 | exact (bh_n (by first | assumption | omega)).trans (by assumption)) (by rfl) ?_
  refine ma_iconst dX7_clear_12 ?_
  refine ma_cS [_, _] dX7_clear_13 wJ7_fill_53178 lX7_63 tJ7_fill_53178 (Nat.le_of_ble_eq_true rfl) ?_
  refine c_J7_fill_53178 bh_46 (by decide) ?_
  rw [bh_p46]
  refine ma_aload_n dX7_clear_16 rfl ?_
  refine ma_getf dX7_clear_17 fX7_18 (by first | exact bh_45 | exact bh_46 | exact bh_47 | exact bh_48 | exact bh_49 | exact bh_50 | exact bh_51 | exact bh_52 | exact bh_53 | exact bh_44 | exact (bh_n (by first | assumption | omega)).trans (by assumption)) (by rfl) ?_
  refine ma_iconst dX7_clear_20 ?_
  refine ma_cS [_, _] dX7_clear_21 wJ7_fill_53178 lX7_63 tJ7_fill_53178 (Nat.le_of_ble_eq_true rfl) ?_
  refine c_J7_fill_53178 bh_47 (by decide) ?_
  rw [bh_p47]
  refine ma_aload_n dX7_clear_24 rfl ?_
  refine ma_getf dX7_clear_25 fX7_25 (by first | exact bh_45 | exact bh_46 | exact bh_47 | exact bh_48 | exact bh_49 | exact bh_50 | exact bh_51 | exact bh_52 | exact bh_53 | exact bh_44 | exact (bh_n (by first | assumption | omega)).trans (by assumption)) (by rfl) ?_
  refine ma_iconst dX7_clear_28 ?_
  refine ma_cS [_, _] dX7_clear_29 wJ7_fill_53178 lX7_63 tJ7_fill_53178 (Nat.le_of_ble_eq_true rfl) ?_
  refine c_J7_fill_53178 bh_49 (by decide) ?_
  rw [bh_p49]
  refine ma_aload_n dX7_clear_32 rfl ?_
  refine ma_getf dX7_clear_33 fX7_28 (by first | exact bh_45 | exact bh_46 | exact bh_47 | exact bh_48 | exact bh_49 | exact bh_50 | exact bh_51 | exact bh_52 | exact bh_53 | exact bh_44 | exact (bh_n (by first | assumption | omega)).trans (by assumption)) (by rfl) ?_
  refine ma_iconst dX7_clear_36 ?_
  refine ma_cS [_, _] dX7_clear_37 wJ7_fill_53178 lX7_63 tJ7_fill_53178 (Nat.le_of_ble_eq_true rfl) ?_
  refine c_J7_fill_53178 bh_50 (by decide) ?_
  rw [bh_p50]
  refine ma_aload_n dX7_clear_40 rfl ?_
  refine ma_getf dX7_clear_41 fX7_31 (by first | exact bh_45 | exact bh_46 | exact bh_47 | exact bh_48 | exact bh_49 | exact bh_50 | exact bh_51 | exact bh_52 | exact bh_53 | exact bh_44 | exact (bh_n (by first | assumption | omega)).trans (by assumption)) (by rfl) ?_
  refine ma_iconst dX7_clear_44 ?_
  refine ma_cS [_, _] dX7_clear_45 wJ7_fill_53178 lX7_63 tJ7_fill_53178 (Nat.le_of_ble_eq_true rfl) ?_
  refine c_J7_fill_53178 bh_51 (by decide) ?_
  rw [bh_p51]
  refine ma_aload_n dX7_clear_48 rfl ?_
  refine ma_getf dX7_clear_49 fX7_34 (by first | exact bh_45 | exact bh_46 | exact bh_47 | exact bh_48 | exact bh_49 | exact bh_50 | exact bh_51 | exact bh_52 | exact bh_53 | exact bh_44 | exact (bh_n (by first | assumption | omega)).trans (by assumption)) (by rfl) ?_
  refine ma_iconst dX7_clear_52 ?_
  refine ma_cS [_, _] dX7_clear_53 wJ7_fill_53178 lX7_63 tJ7_fill_53178 (Nat.le_of_ble_eq_true rfl) ?_
  refine c_J7_fill_53178 bh_52 (by decide) ?_
  rw [bh_p52]
  refine ma_iconst dX7_clear_56 ?_
  refine ma_istore_nN dX7_clear_57 (by decide) rfl ?_
  exact l_X7_clear_58 K 129 0 F (by omega) (by omega) (by omega) (fun j j0 j1 => by omega)
