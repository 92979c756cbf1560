def la2 (f c : Int) : Int := if c = f then 3 else rkf f c
def jn2 (f y : Int) : Int := if f = 0 then (if y = 0 then 0 else if y = 1 then 1 else if y = 2 then 2 else 0) else if f = 1 then (if y = 0 then 1 else if y = 1 then 0 else if y = 2 then 2 else 0) else if f = 2 then (if y = 0 then 1 else if y = 1 then 2 else if y = 2 then 0 else 0) else (if y = 0 then 1 else if y = 1 then 2 else if y = 2 then 0 else 0)
def nu2 (f y : Int) : Int := if f = 0 then (if y = 0 then 0 else if y = 1 then 0 else if y = 2 then 4 else 3) else if f = 1 then (if y = 0 then 6 else if y = 1 then 0 else if y = 2 then 18 else 13) else if f = 2 then (if y = 0 then 8 else if y = 1 then 20 else if y = 2 then 0 else 16) else (if y = 0 then 9 else if y = 1 then 21 else if y = 2 then 17 else 0)
theorem la2_ok {f : Int} (f0 : 0 ≤ f ∧ f < 4) : (∀ c, 0 ≤ c → c < 4 → 0 ≤ la2 f c ∧ la2 f c < 5 ∧ la2 f c ≠ 4) ∧ (∀ c c', 0 ≤ c → c < 4 → 0 ≤ c' → c' < 4 → la2 f c = la2 f c' → c = c') ∧ ∀ b, 0 ≤ b → b < 5 → b ≠ 4 → ∃ c, 0 ≤ c ∧ c < 4 ∧ la2 f c = b := by
  refine ⟨fun c c0 c1 => ?_, fun c c' c0 c1 d0 d1 e => ?_, fun b b0 b1 b4 => ?_⟩
  · unfold la2 rkf
    split
    · omega
    · split <;> omega
  · unfold la2 rkf at e
    split at e <;> split at e <;> (try split at e) <;> (try split at e) <;> omega
  · rcases Int.lt_or_le b f with z | z
    · exact ⟨b, b0, by omega, by unfold la2 rkf; rw [if_neg (by omega), if_neg (by omega)]⟩
    · by_cases y : b = 3
      · exact ⟨f, f0.1, f0.2, by unfold la2; rw [if_pos rfl, y]⟩
      · exact ⟨b + 1, by omega, by omega, by unfold la2 rkf; rw [if_neg (by omega), if_pos (by omega)]; omega⟩
theorem lcg_two {X : Int → Prop} {cl : Int → Int} {f : Int} (f0 : 0 ≤ f ∧ f < 4) (hX : ∀ x, 0 ≤ x → x < 4 → (X x ↔ x = f)) (c0 : cl 0 = 3) (c1 : cl 1 = 4) (c2 : cl 2 = 0) (c3 : cl 3 = 1) (c4 : cl 4 = 3) (c5 : cl 5 = 4) (c6 : cl 6 = 1) (c7 : cl 7 = 2) (c8 : cl 8 = 3) (c9 : cl 9 = 4) (c10 : cl 10 = 2) (c11 : cl 11 = 0) : LCG X cl 3 (la2 f) 4 (jn2 f) (nu2 f) := by
  rcases four_of f0.1 f0.2 with rfl | rfl | rfl | rfl
  · refine ⟨by decide, fun y y0 y1 hy => ?_, fun y y' y0 y1 y0' y1' hy hy' e => ?_, fun j j0 j1 => ?_⟩
    · have ny : y ≠ 0 := fun z => hy ((hX y y0 y1).mpr z)
      rcases four_of y0 y1 with rfl | rfl | rfl | rfl
      · exact absurd rfl ny
      · refine ⟨by decide, by decide, by decide, fun c d0 d1 => ?_⟩
        rcases four_of d0 d1 with rfl | rfl | rfl | rfl
        · exact c4
        · exact c5
        · exact c6
        · exact c7
      · refine ⟨by decide, by decide, by decide, fun c d0 d1 => ?_⟩
        rcases four_of d0 d1 with rfl | rfl | rfl | rfl
        · exact c8
        · exact c11
        · exact c9
        · exact c10
      · refine ⟨by decide, by decide, by decide, fun c d0 d1 => ?_⟩
        rcases four_of d0 d1 with rfl | rfl | rfl | rfl
        · exact c0
        · exact c2
        · exact c3
        · exact c1
    · have ny : y ≠ 0 := fun z => hy ((hX y y0 y1).mpr z)
      have ny' : y' ≠ 0 := fun z => hy' ((hX y' y0' y1').mpr z)
      rcases four_of y0 y1 with rfl | rfl | rfl | rfl <;> rcases four_of y0' y1' with rfl | rfl | rfl | rfl <;> first | rfl | exact absurd rfl ny | exact absurd rfl ny' | exact absurd e (by decide)
    · rcases (show j = 0 ∨ j = 1 ∨ j = 2 by omega) with rfl | rfl | rfl
      · exact ⟨3, by decide, by decide, fun z => absurd ((hX _ (by decide) (by decide)).mp z) (by decide), by decide⟩
      · exact ⟨1, by decide, by decide, fun z => absurd ((hX _ (by decide) (by decide)).mp z) (by decide), by decide⟩
      · exact ⟨2, by decide, by decide, fun z => absurd ((hX _ (by decide) (by decide)).mp z) (by decide), by decide⟩
  · refine ⟨by decide, fun y y0 y1 hy => ?_, fun y y' y0 y1 y0' y1' hy hy' e => ?_, fun j j0 j1 => ?_⟩
    · have ny : y ≠ 1 := fun z => hy ((hX y y0 y1).mpr z)
      rcases four_of y0 y1 with rfl | rfl | rfl | rfl
      · refine ⟨by decide, by decide, by decide, fun c d0 d1 => ?_⟩
        rcases four_of d0 d1 with rfl | rfl | rfl | rfl
        · exact c5
        · exact c4
        · exact c6
        · exact c7
      · exact absurd rfl ny
      · refine ⟨by decide, by decide, by decide, fun c d0 d1 => ?_⟩
        rcases four_of d0 d1 with rfl | rfl | rfl | rfl
        · exact c11
        · exact c8
        · exact c9
        · exact c10
      · refine ⟨by decide, by decide, by decide, fun c d0 d1 => ?_⟩
        rcases four_of d0 d1 with rfl | rfl | rfl | rfl
        · exact c2
        · exact c0
        · exact c3
        · exact c1
    · have ny : y ≠ 1 := fun z => hy ((hX y y0 y1).mpr z)
      have ny' : y' ≠ 1 := fun z => hy' ((hX y' y0' y1').mpr z)
      rcases four_of y0 y1 with rfl | rfl | rfl | rfl <;> rcases four_of y0' y1' with rfl | rfl | rfl | rfl <;> first | rfl | exact absurd rfl ny | exact absurd rfl ny' | exact absurd e (by decide)
    · rcases (show j = 0 ∨ j = 1 ∨ j = 2 by omega) with rfl | rfl | rfl
      · exact ⟨3, by decide, by decide, fun z => absurd ((hX _ (by decide) (by decide)).mp z) (by decide), by decide⟩
      · exact ⟨0, by decide, by decide, fun z => absurd ((hX _ (by decide) (by decide)).mp z) (by decide), by decide⟩
      · exact ⟨2, by decide, by decide, fun z => absurd ((hX _ (by decide) (by decide)).mp z) (by decide), by decide⟩
  · refine ⟨by decide, fun y y0 y1 hy => ?_, fun y y' y0 y1 y0' y1' hy hy' e => ?_, fun j j0 j1 => ?_⟩
    · have ny : y ≠ 2 := fun z => hy ((hX y y0 y1).mpr z)
      rcases four_of y0 y1 with rfl | rfl | rfl | rfl
      · refine ⟨by decide, by decide, by decide, fun c d0 d1 => ?_⟩
        rcases four_of d0 d1 with rfl | rfl | rfl | rfl
        · exact c5
        · exact c6
        · exact c4
        · exact c7
      · refine ⟨by decide, by decide, by decide, fun c d0 d1 => ?_⟩
        rcases four_of d0 d1 with rfl | rfl | rfl | rfl
        · exact c11
        · exact c9
        · exact c8
        · exact c10
      · exact absurd rfl ny
      · refine ⟨by decide, by decide, by decide, fun c d0 d1 => ?_⟩
        rcases four_of d0 d1 with rfl | rfl | rfl | rfl
        · exact c2
        · exact c3
        · exact c0
        · exact c1
    · have ny : y ≠ 2 := fun z => hy ((hX y y0 y1).mpr z)
      have ny' : y' ≠ 2 := fun z => hy' ((hX y' y0' y1').mpr z)
      rcases four_of y0 y1 with rfl | rfl | rfl | rfl <;> rcases four_of y0' y1' with rfl | rfl | rfl | rfl <;> first | rfl | exact absurd rfl ny | exact absurd rfl ny' | exact absurd e (by decide)
    · rcases (show j = 0 ∨ j = 1 ∨ j = 2 by omega) with rfl | rfl | rfl
      · exact ⟨3, by decide, by decide, fun z => absurd ((hX _ (by decide) (by decide)).mp z) (by decide), by decide⟩
      · exact ⟨0, by decide, by decide, fun z => absurd ((hX _ (by decide) (by decide)).mp z) (by decide), by decide⟩
      · exact ⟨1, by decide, by decide, fun z => absurd ((hX _ (by decide) (by decide)).mp z) (by decide), by decide⟩
  · refine ⟨by decide, fun y y0 y1 hy => ?_, fun y y' y0 y1 y0' y1' hy hy' e => ?_, fun j j0 j1 => ?_⟩
    · have ny : y ≠ 3 := fun z => hy ((hX y y0 y1).mpr z)
      rcases four_of y0 y1 with rfl | rfl | rfl | rfl
      · refine ⟨by decide, by decide, by decide, fun c d0 d1 => ?_⟩
        rcases four_of d0 d1 with rfl | rfl | rfl | rfl
        · exact c5
        · exact c6
        · exact c7
        · exact c4
      · refine ⟨by decide, by decide, by decide, fun c d0 d1 => ?_⟩
        rcases four_of d0 d1 with rfl | rfl | rfl | rfl
        · exact c11
        · exact c9
        · exact c10
        · exact c8
      · refine ⟨by decide, by decide, by decide, fun c d0 d1 => ?_⟩
        rcases four_of d0 d1 with rfl | rfl | rfl | rfl
        · exact c2
        · exact c3
        · exact c1
        · exact c0
      · exact absurd rfl ny
    · have ny : y ≠ 3 := fun z => hy ((hX y y0 y1).mpr z)
      have ny' : y' ≠ 3 := fun z => hy' ((hX y' y0' y1').mpr z)
      rcases four_of y0 y1 with rfl | rfl | rfl | rfl <;> rcases four_of y0' y1' with rfl | rfl | rfl | rfl <;> first | rfl | exact absurd rfl ny | exact absurd rfl ny' | exact absurd e (by decide)
    · rcases (show j = 0 ∨ j = 1 ∨ j = 2 by omega) with rfl | rfl | rfl
      · exact ⟨2, by decide, by decide, fun z => absurd ((hX _ (by decide) (by decide)).mp z) (by decide), by decide⟩
      · exact ⟨0, by decide, by decide, fun z => absurd ((hX _ (by decide) (by decide)).mp z) (by decide), by decide⟩
      · exact ⟨1, by decide, by decide, fun z => absurd ((hX _ (by decide) (by decide)).mp z) (by decide), by decide⟩
theorem gs_1 {G : Int → Int} {a f : Int} {X : Int → Prop} (f0 : 0 ≤ f ∧ f < 4) (hX : ∀ x, 0 ≤ x → x < 4 → (X x ↔ x = f)) : gS G a X = fun i => i = a ∨ i = bX G a f := by
  funext i
  apply propext
  constructor
  · rintro (z | ⟨x, x0, x1, hx, e⟩)
    · exact Or.inl z
    · rw [(hX x x0 x1).mp hx] at e
      exact Or.inr e
  · rintro (z | z)
    · exact Or.inl z
    · exact Or.inr ⟨f, f0.1, f0.2, (hX f f0.1 f0.2).mpr rfl, z⟩
set_option maxHeartbeats 2000000 in
theorem l_goTwo74 {h : ma_H} {b nx d : Nat} {x f is' p : Int} {Q : Option ma_V → ma_H → Nat → Prop} {I : Nat → Int} (hM : h 73 = co 12 (mo I)) (f0 : 0 ≤ f ∧ f < 4) (hp : 0 ≤ p ∧ p < 24) (KO : ∀ LB OT nxt, (∀ c, 0 ≤ c → c < 4 → LB c = la2 f c ∧ OT (im p c) = if c = f then 4 else la2 f c) → ma_J none mX12_goTwo (d + 4) 0 0 137 [some (vr 73), some (vr b), some (vi x), some (vi f), some (vi is'), some (vi p), some (vi nxt), some (vi 4)] [] (ma_up (ma_up h 97 (ci 4 LB)) 98 (ci 4 OT)) nx Q) :
    ∀ (m : Nat) (c : Int) (LB : Int → Int) (OT : Int → Int) (nxt : Int), (0 ≤ c) → (c ≤ 4) → (4 - c < m) → (nxt = if f < c then c - 1 else c) → (∀ c', 0 ≤ c' → c' < c → LB c' = la2 f c' ∧ OT (im p c') = if c' = f then 4 else la2 f c') → ma_J none mX12_goTwo (d + 4) 0 0 74 [some (vr 73), some (vr b), some (vi x), some (vi f), some (vi is'), some (vi p), some (vi nxt), some (vi c)] [] (ma_up (ma_up h 97 (ci 4 LB)) 98 (ci 4 OT)) nx Q := by
  intro m
  induction m with
  | zero => intro c LB OT nxt c0 c1 c2 hn hV; omega
  | succ m ih =>
    intro c LB OT nxt c0 c1 c2 hn hV
    refine ma_iload dX12_goTwo_74 rfl ?_
    refine ma_iconst dX12_goTwo_76 ?_
    refine ma_rcmp_ge 137 dX12_goTwo_77 rfl (by constructor <;> omega) (by constructor <;> omega) (fun c77 => ?_) (fun c77 => ?_)
    · -- 137
      have e4 : c = 4 := by omega
      subst e4
      exact KO LB OT _ (fun c' a0 a1 => hV c' a0 a1)
    · -- 80
      refine ma_aload_n dX12_goTwo_80 rfl ?_
      refine ma_getf dX12_goTwo_81 fX12_81 (by first | exact ma_up_s _ _ _ | exact (ma_up_n (by decide)).trans (ma_up_s _ _ _) | exact (ma_up_n (by decide)).trans ((ma_up_n (by decide)).trans (by assumption))) (by rfl) ?_
      refine ma_iload dX12_goTwo_84 rfl ?_
      refine ma_iload dX12_goTwo_86 rfl ?_
      refine ma_iload_n dX12_goTwo_88 rfl ?_
      refine ma_rcmp_ne 96 dX12_goTwo_89 rfl (by constructor <;> omega) (by constructor <;> omega) (fun c89 => ?_) (fun c89 => ?_)
      · -- 96
        refine ma_iload dX12_goTwo_96 rfl ?_
        refine ma_iincN dX12_goTwo_98 rfl (by decide) rfl ?_
        refine ma_iast dX12_goTwo_101 (by first | exact ma_up_s _ _ _ | exact (ma_up_n (by decide)).trans (ma_up_s _ _ _) | exact (ma_up_n (by decide)).trans ((ma_up_n (by decide)).trans (by assumption))) (by omega) (by omega) (by omega) ?_
        rw [fl_e (by decide)]
        refine ma_aload_n dX12_goTwo_102 rfl ?_
        refine ma_getf dX12_goTwo_103 fX12_84 (by first | exact ma_up_s _ _ _ | exact (ma_up_n (by decide)).trans (ma_up_s _ _ _) | exact (ma_up_n (by decide)).trans ((ma_up_n (by decide)).trans (by assumption))) (by rfl) ?_
        refine ma_iload dX12_goTwo_106 rfl ?_
        refine ma_iload dX12_goTwo_108 rfl ?_
        refine ma_cS [_, _] dX12_goTwo_110 wX12_image lX12_124 tX12_image (Nat.le_of_ble_eq_true rfl) ?_
        refine c_X12_image hp ⟨c0, by omega⟩ ?_
        have wc := im_in hp.1 hp.2 c0 (show c < 4 by omega)
        refine ma_iload dX12_goTwo_113 rfl ?_
        refine ma_iload_n dX12_goTwo_115 rfl ?_
        refine ma_rcmp_ne 123 dX12_goTwo_116 rfl (by constructor <;> omega) (by constructor <;> omega) (fun c116 => ?_) (fun c116 => ?_)
        · -- 123
          refine ma_aload_n dX12_goTwo_123 rfl ?_
          refine ma_getf dX12_goTwo_124 fX12_81 (by first | exact ma_up_s _ _ _ | exact (ma_up_n (by decide)).trans (ma_up_s _ _ _) | exact (ma_up_n (by decide)).trans ((ma_up_n (by decide)).trans (by assumption))) (by rfl) ?_
          refine ma_iload dX12_goTwo_127 rfl ?_
          refine ma_iald dX12_goTwo_129 (by first | exact ma_up_s _ _ _ | exact (ma_up_n (by decide)).trans (ma_up_s _ _ _) | exact (ma_up_n (by decide)).trans ((ma_up_n (by decide)).trans (by assumption))) (by omega) (by omega) (by omega) ?_
          rw [uf_s]
          refine ma_iast dX12_goTwo_130 (by first | exact ma_up_s _ _ _ | exact (ma_up_n (by decide)).trans (ma_up_s _ _ _) | exact (ma_up_n (by decide)).trans ((ma_up_n (by decide)).trans (by assumption))) (by omega) (by omega) (by omega) ?_
          rw [ma_up_up]
          refine ma_iincN dX12_goTwo_131 rfl (by decide) rfl ?_
          refine ma_goto 74 dX12_goTwo_134 rfl ?_
          refine ih (c + 1) _ _ _ (by omega) (by omega) (by omega) (by rw [hn]; split <;> split <;> omega) (fun c' a0 a1 => ?_)
          by_cases z : c' = c
          · subst z
            rw [uf_s, uf_s]
            have e1 : la2 f c' = rkf f c' := by unfold la2; rw [if_neg (by omega)]
            have e2 : rkf f c' = nxt := by unfold rkf; rw [hn]
            rw [if_neg (by omega), e1, e2]
            exact ⟨rfl, rfl⟩
          · have h2 := hV c' a0 (by omega)
            rw [uf_n z, uf_n (fun y => z (im_ij hp.1 hp.2 a0 (by omega) c0 (by omega) y))]
            exact h2
        · -- 119
          refine ma_iconst dX12_goTwo_119 ?_
          refine ma_goto 130 dX12_goTwo_120 rfl ?_
          refine ma_iast dX12_goTwo_130 (by first | exact ma_up_s _ _ _ | exact (ma_up_n (by decide)).trans (ma_up_s _ _ _) | exact (ma_up_n (by decide)).trans ((ma_up_n (by decide)).trans (by assumption))) (by omega) (by omega) (by omega) ?_
          rw [ma_up_up]
          refine ma_iincN dX12_goTwo_131 rfl (by decide) rfl ?_
          refine ma_goto 74 dX12_goTwo_134 rfl ?_
          exact absurd c116 c89
      · -- 92
        refine ma_iconst dX12_goTwo_92 ?_
        refine ma_goto 101 dX12_goTwo_93 rfl ?_
        refine ma_iast dX12_goTwo_101 (by first | exact ma_up_s _ _ _ | exact (ma_up_n (by decide)).trans (ma_up_s _ _ _) | exact (ma_up_n (by decide)).trans ((ma_up_n (by decide)).trans (by assumption))) (by omega) (by omega) (by omega) ?_
        rw [fl_e (by decide)]
        refine ma_aload_n dX12_goTwo_102 rfl ?_
        refine ma_getf dX12_goTwo_103 fX12_84 (by first | exact ma_up_s _ _ _ | exact (ma_up_n (by decide)).trans (ma_up_s _ _ _) | exact (ma_up_n (by decide)).trans ((ma_up_n (by decide)).trans (by assumption))) (by rfl) ?_
        refine ma_iload dX12_goTwo_106 rfl ?_
        refine ma_iload dX12_goTwo_108 rfl ?_
        refine ma_cS [_, _] dX12_goTwo_110 wX12_image lX12_124 tX12_image (Nat.le_of_ble_eq_true rfl) ?_
        refine c_X12_image hp ⟨c0, by omega⟩ ?_
        have wc := im_in hp.1 hp.2 c0 (show c < 4 by omega)
        refine ma_iload dX12_goTwo_113 rfl ?_
        refine ma_iload_n dX12_goTwo_115 rfl ?_
        refine ma_rcmp_ne 123 dX12_goTwo_116 rfl (by constructor <;> omega) (by constructor <;> omega) (fun c116 => ?_) (fun c116 => ?_)
        · -- 123
          refine ma_aload_n dX12_goTwo_123 rfl ?_
          refine ma_getf dX12_goTwo_124 fX12_81 (by first | exact ma_up_s _ _ _ | exact (ma_up_n (by decide)).trans (ma_up_s _ _ _) | exact (ma_up_n (by decide)).trans ((ma_up_n (by decide)).trans (by assumption))) (by rfl) ?_
          refine ma_iload dX12_goTwo_127 rfl ?_
          refine ma_iald dX12_goTwo_129 (by first | exact ma_up_s _ _ _ | exact (ma_up_n (by decide)).trans (ma_up_s _ _ _) | exact (ma_up_n (by decide)).trans ((ma_up_n (by decide)).trans (by assumption))) (by omega) (by omega) (by omega) ?_
          rw [uf_s]
          refine ma_iast dX12_goTwo_130 (by first | exact ma_up_s _ _ _ | exact (ma_up_n (by decide)).trans (ma_up_s _ _ _) | exact (ma_up_n (by decide)).trans ((ma_up_n (by decide)).trans (by assumption))) (by omega) (by omega) (by omega) ?_
          rw [ma_up_up]
          refine ma_iincN dX12_goTwo_131 rfl (by decide) rfl ?_
          refine ma_goto 74 dX12_goTwo_134 rfl ?_
          exact absurd c89 c116
        · -- 119
          refine ma_iconst dX12_goTwo_119 ?_
          refine ma_goto 130 dX12_goTwo_120 rfl ?_
          refine ma_iast dX12_goTwo_130 (by first | exact ma_up_s _ _ _ | exact (ma_up_n (by decide)).trans (ma_up_s _ _ _) | exact (ma_up_n (by decide)).trans ((ma_up_n (by decide)).trans (by assumption))) (by omega) (by omega) (by omega) ?_
          rw [ma_up_up]
          refine ma_iincN dX12_goTwo_131 rfl (by decide) rfl ?_
          refine ma_goto 74 dX12_goTwo_134 rfl ?_
          refine ih (c + 1) _ _ _ (by omega) (by omega) (by omega) (by rw [hn]; split <;> split <;> omega) (fun c' a0 a1 => ?_)
          by_cases z : c' = c
          · subst z
            rw [uf_s, uf_s]
            have e1 : la2 f c' = 3 := by unfold la2; rw [if_pos (by omega)]
            rw [if_pos (by omega), e1]
            exact ⟨rfl, rfl⟩
          · have h2 := hV c' a0 (by omega)
            rw [uf_n z, uf_n (fun y => z (im_ij hp.1 hp.2 a0 (by omega) c0 (by omega) y))]
            exact h2
set_option maxHeartbeats 2000000 in
theorem c_X12_goTwo {h : ma_H} {b nx d : Nat} {t x f : Int} {G Aa C : Int → Int} {Q : Option ma_V → ma_H → Nat → Prop} {I : Nat → Int} (hM : h 73 = co 12 (mo I)) (hS : SMO h) (hb : h b = ci 33 Aa) (nb : mlen b = 0 ∧ b ≠ 77 ∧ b ≠ 73) (hG : VG t G) (hA : AG t G Aa) (rx : rg x) (rf : rg f) (hMR : (0 ≤ x ∧ x < t ∧ 0 ≤ f ∧ f < 4) → 0 ≤ G (4 * x + f) → G (4 * x + f) / 32 ≠ x → t ≤ 7 → MR t G (4 * x + f) (t + 1) C) (K1 : ¬ (0 ≤ x ∧ x < t ∧ 0 ≤ f ∧ f < 4) → Q (some (vi (-1))) h nx) (K2 : (0 ≤ x ∧ x < t ∧ 0 ≤ f ∧ f < 4) → G (4 * x + f) < 0 ∨ G (4 * x + f) / 32 = x → Q (some (vi (-2))) h nx) (K3 : (0 ≤ x ∧ x < t ∧ 0 ≤ f ∧ f < 4) → 0 ≤ G (4 * x + f) → G (4 * x + f) / 32 ≠ x → t = 8 → Q (some (vi (-3))) h nx) (K0 : (0 ≤ x ∧ x < t ∧ 0 ≤ f ∧ f < 4) → 0 ≤ G (4 * x + f) → G (4 * x + f) / 32 ≠ x → t ≤ 7 → ∀ h' I' TH C', MP h h' b I I' → h' b = ci 33 TH → AG (t + 1) C' TH → (∃ m r sg, IS (t + 1) C C' m r sg) → (∀ k, 4 * (t + 1) ≤ k → C' k = -1) → Q (some (vi 0)) h' nx) : ma_Ct mX12_goTwo (d + 4) 0 0 [vr 73, vr b, vi x, vi f] h nx Q := by
  have ht := hG.1
  have nbk := nb_k nb
  have rx' := rx
  unfold rg at rx'
  refine ma_Ct.of (by decide +kernel) (Nat.le_of_ble_eq_true rfl) ?_
  refine ma_iload_n dX12_goTwo_0 rfl ?_
  refine ma_iconst dX12_goTwo_1 ?_
  refine ma_aload_n dX12_goTwo_2 rfl ?_
  refine ma_iconst dX12_goTwo_3 ?_
  refine ma_iald dX12_goTwo_4 (by assumption) (by omega) (by omega) (by omega) ?_
  rw [hA.1]
  refine ma_iconst dX12_goTwo_5 ?_
  refine ma_isub dX12_goTwo_6 ?_
  refine ma_cS [_, _, _] dX12_goTwo_7 wX12_in lX12_179 tX12_in (Nat.le_of_ble_eq_true rfl) ?_
  refine c_X12_in rx (by unfold rg; omega) (by unfold rg; omega) (fun a1 a2 => ?_) (fun a1 => ?_)
  · -- k1
    refine ma_rif_eq 22 dX12_goTwo_10 rfl (by decide) (fun c10 => absurd c10 (by decide)) (fun c10 => ?_)
    refine ma_iload_n dX12_goTwo_13 rfl ?_
    refine ma_iconst dX12_goTwo_14 ?_
    refine ma_iconst dX12_goTwo_15 ?_
    refine ma_cS [_, _, _] dX12_goTwo_16 wX12_in lX12_179 tX12_in (Nat.le_of_ble_eq_true rfl) ?_
    refine c_X12_in rf (by unfold rg; omega) (by unfold rg; omega) (fun b1 b2 => ?_) (fun b1 => ?_)
    · -- k1
      refine ma_rif_ne 24 dX12_goTwo_19 rfl (by decide) (fun c19 => ?_) (fun c19 => absurd c19 (by decide))
      refine ma_aload_n dX12_goTwo_24 rfl ?_
      refine ma_iload_n dX12_goTwo_25 rfl ?_
      refine ma_iload_n dX12_goTwo_26 rfl ?_
      refine ma_cS [_, _, _] dX12_goTwo_27 wX12_glue lX12_150 tX12_glue (Nat.le_of_ble_eq_true rfl) ?_
      refine c_X12_glue hb (by constructor <;> omega) (by constructor <;> omega) ?_
      rw [show 1 + 4 * x + f = 1 + (4 * x + f) by omega, hA.2 (4 * x + f) (by omega) (by omega)]
      have hcn := cv_ne hG (k := 4 * x + f) (by omega) (by omega)
      have hv : vc (G (4 * x + f)) := by have := (vg_in hG (k := 4 * x + f) (by omega) (by omega)).2.2; unfold vc; omega
      have hcv := (cv_lt hv hv).2.2
      refine ma_istoreN dX12_goTwo_30 (by decide) rfl ?_
      refine ma_iload dX12_goTwo_32 rfl ?_
      refine ma_iconst dX12_goTwo_34 ?_
      refine ma_rcmp_eq 47 dX12_goTwo_35 rfl (by constructor <;> omega) (by decide) (fun c35 => ?_) (fun c35 => ?_)
      · -- 47
        refine ma_bipush dX12_goTwo_47 ?_
        exact ma_iret dX12_goTwo_49 rfl (K2 ⟨by omega, by omega, by omega, by omega⟩ (Or.inl (hcn.mp c35)))
      · -- 38
        have g : 0 ≤ G (4 * x + f) := by
          rcases Int.lt_or_le (G (4 * x + f)) 0 with z | z
          · exact absurd (hcn.mpr z) c35
          · exact z
        have pp := pt_pt hG (k := 4 * x + f) (by omega) (by omega) g
        have cp := cv_p g pp.2.2.2.2.2.1
        refine ma_iload dX12_goTwo_38 rfl ?_
        refine ma_bipush dX12_goTwo_40 ?_
        refine ma_kdiv dX12_goTwo_42 (by constructor <;> omega) (by constructor <;> omega) ?_
        rw [cp.2.1]
        refine ma_iload_n dX12_goTwo_43 rfl ?_
        refine ma_rcmp_ne 50 dX12_goTwo_44 rfl (by constructor <;> omega) (by constructor <;> omega) (fun c44 => ?_) (fun c44 => ?_)
        · -- 50
          refine ma_aload_n dX12_goTwo_50 rfl ?_
          refine ma_iconst dX12_goTwo_51 ?_
          refine ma_iald dX12_goTwo_52 (by assumption) (by omega) (by omega) (by omega) ?_
          rw [hA.1]
          refine ma_bipush dX12_goTwo_53 ?_
          refine ma_rcmp_ne 61 dX12_goTwo_55 rfl (by constructor <;> omega) (by constructor <;> omega) (fun c55 => ?_) (fun c55 => ?_)
          · -- 61
            refine ma_iload dX12_goTwo_61 rfl ?_
            refine ma_bipush dX12_goTwo_63 ?_
            refine ma_kmod dX12_goTwo_65 (by constructor <;> omega) (by constructor <;> omega) ?_
            rw [cp.2.2]
            refine ma_istoreN dX12_goTwo_66 (by decide) rfl ?_
            refine ma_iconst dX12_goTwo_68 ?_
            refine ma_istoreN dX12_goTwo_69 (by decide) rfl ?_
            refine ma_iconst dX12_goTwo_71 ?_
            refine ma_istoreN dX12_goTwo_72 (by decide) rfl ?_
            have hp : 0 ≤ G (4 * x + f) % 32 ∧ G (4 * x + f) % 32 < 24 := ⟨pp.2.2.2.2.1, pp.2.2.2.2.2.1⟩
            obtain ⟨lb0, g97⟩ : ∃ f, h 97 = ci 4 f := hS.1 97 (by decide)
            obtain ⟨ot0, g98⟩ : ∃ f, h 98 = ci 4 f := hS.1 98 (by decide)
            rw [show h = ma_up (ma_up h 97 (ci 4 lb0)) 98 (ci 4 ot0) by rw [ma_up_id g97, ma_up_id g98]]
            refine l_goTwo74 hM ⟨by omega, by omega⟩ hp (fun LB OT nxt hLO => ?_) 5 0 lb0 ot0 0 (by omega) (by omega) (by omega) (by rw [if_neg (by omega)]) (fun c' a0 a1 => by omega)
            refine ma_aload_n dX12_goTwo_137 rfl ?_
            refine ma_cV [] dX12_goTwo_138 wX12_beginMove lX12_402 iX12_beginMove sX12_beginMove rfl (by first | exact ma_up_s _ _ _ | exact (ma_up_n (by decide)).trans (ma_up_s _ _ _) | exact (ma_up_n (by decide)).trans ((ma_up_n (by decide)).trans (ma_up_s _ _ _)) | exact (ma_up_n (by decide)).trans ((ma_up_n (by decide)).trans ((ma_up_n (by decide)).trans (ma_up_s _ _ _))) | exact (ma_up_n (by decide)).trans ((ma_up_n (by decide)).trans ((ma_up_n (by decide)).trans ((ma_up_n (by decide)).trans (ma_up_s _ _ _)))) | exact (ma_up_n (by decide)).trans ((ma_up_n (by decide)).trans ((ma_up_n (by decide)).trans ((ma_up_n (by decide)).trans ((ma_up_n (by decide)).trans (ma_up_s _ _ _))))) | exact (ma_up_n (by decide)).trans ((ma_up_n (by decide)).trans ((ma_up_n (by decide)).trans ((ma_up_n (by decide)).trans ((ma_up_n (by decide)).trans ((ma_up_n (by decide)).trans (ma_up_s _ _ _)))))) | exact (ma_up_n (by decide)).trans ((ma_up_n (by decide)).trans ((ma_up_n (by decide)).trans ((ma_up_n (by decide)).trans ((ma_up_n (by decide)).trans ((ma_up_n (by decide)).trans ((ma_up_n (by decide)).trans (ma_up_s _ _ _))))))) | exact (ma_up_n (by decide)).trans ((ma_up_n (by decide)).trans ((ma_up_n (by decide)).trans ((ma_up_n (by decide)).trans ((ma_up_n (by decide)).trans ((ma_up_n (by decide)).trans ((ma_up_n (by decide)).trans ((ma_up_n (by decide)).trans (ma_up_s _ _ _)))))))) | exact (ma_up_n (by decide)).trans ((ma_up_n (by decide)).trans (by assumption))) (Nat.le_of_ble_eq_true rfl) ?_
            obtain ⟨go0, g92⟩ : ∃ f, h 92 = ci 4 f := hS.1 92 (by decide)
            obtain ⟨gl0, g93⟩ : ∃ f, h 93 = ci 16 f := hS.1 93 (by decide)
            obtain ⟨cl0, g94⟩ : ∃ f, h 94 = ci 16 f := hS.1 94 (by decide)
            refine c_X12_beginMove ((ma_up_n (by decide)).trans ((ma_up_n (by decide)).trans (hM))) ?_
            refine ma_aload_n dX12_goTwo_141 rfl ?_
            refine ma_iload_n dX12_goTwo_142 rfl ?_
            refine ma_aload_n dX12_goTwo_143 rfl ?_
            refine ma_getf dX12_goTwo_144 fX12_81 (by first | exact ma_up_s _ _ _ | exact (ma_up_n (by decide)).trans (ma_up_s _ _ _) | exact (ma_up_n (by decide)).trans ((ma_up_n (by decide)).trans (ma_up_s _ _ _)) | exact (ma_up_n (by decide)).trans ((ma_up_n (by decide)).trans ((ma_up_n (by decide)).trans (ma_up_s _ _ _))) | exact (ma_up_n (by decide)).trans ((ma_up_n (by decide)).trans ((ma_up_n (by decide)).trans ((ma_up_n (by decide)).trans (ma_up_s _ _ _)))) | exact (ma_up_n (by decide)).trans ((ma_up_n (by decide)).trans ((ma_up_n (by decide)).trans ((ma_up_n (by decide)).trans ((ma_up_n (by decide)).trans (ma_up_s _ _ _))))) | exact (ma_up_n (by decide)).trans ((ma_up_n (by decide)).trans ((ma_up_n (by decide)).trans ((ma_up_n (by decide)).trans ((ma_up_n (by decide)).trans ((ma_up_n (by decide)).trans (ma_up_s _ _ _)))))) | exact (ma_up_n (by decide)).trans ((ma_up_n (by decide)).trans ((ma_up_n (by decide)).trans ((ma_up_n (by decide)).trans ((ma_up_n (by decide)).trans ((ma_up_n (by decide)).trans ((ma_up_n (by decide)).trans (ma_up_s _ _ _))))))) | exact (ma_up_n (by decide)).trans ((ma_up_n (by decide)).trans ((ma_up_n (by decide)).trans ((ma_up_n (by decide)).trans ((ma_up_n (by decide)).trans ((ma_up_n (by decide)).trans ((ma_up_n (by decide)).trans ((ma_up_n (by decide)).trans (ma_up_s _ _ _)))))))) | exact (ma_up_n (by decide)).trans ((ma_up_n (by decide)).trans (by assumption))) (by rfl) ?_
            refine ma_iconst dX12_goTwo_147 ?_
            refine ma_iald dX12_goTwo_148 (by first | exact ma_up_s _ _ _ | exact (ma_up_n (by decide)).trans (ma_up_s _ _ _) | exact (ma_up_n (by decide)).trans ((ma_up_n (by decide)).trans (ma_up_s _ _ _)) | exact (ma_up_n (by decide)).trans ((ma_up_n (by decide)).trans ((ma_up_n (by decide)).trans (ma_up_s _ _ _))) | exact (ma_up_n (by decide)).trans ((ma_up_n (by decide)).trans ((ma_up_n (by decide)).trans ((ma_up_n (by decide)).trans (ma_up_s _ _ _)))) | exact (ma_up_n (by decide)).trans ((ma_up_n (by decide)).trans ((ma_up_n (by decide)).trans ((ma_up_n (by decide)).trans ((ma_up_n (by decide)).trans (ma_up_s _ _ _))))) | exact (ma_up_n (by decide)).trans ((ma_up_n (by decide)).trans ((ma_up_n (by decide)).trans ((ma_up_n (by decide)).trans ((ma_up_n (by decide)).trans ((ma_up_n (by decide)).trans (ma_up_s _ _ _)))))) | exact (ma_up_n (by decide)).trans ((ma_up_n (by decide)).trans ((ma_up_n (by decide)).trans ((ma_up_n (by decide)).trans ((ma_up_n (by decide)).trans ((ma_up_n (by decide)).trans ((ma_up_n (by decide)).trans (ma_up_s _ _ _))))))) | exact (ma_up_n (by decide)).trans ((ma_up_n (by decide)).trans ((ma_up_n (by decide)).trans ((ma_up_n (by decide)).trans ((ma_up_n (by decide)).trans ((ma_up_n (by decide)).trans ((ma_up_n (by decide)).trans ((ma_up_n (by decide)).trans (ma_up_s _ _ _)))))))) | exact (ma_up_n (by decide)).trans ((ma_up_n (by decide)).trans (by assumption))) (by omega) (by omega) (by omega) ?_
            refine ma_aload_n dX12_goTwo_149 rfl ?_
            refine ma_getf dX12_goTwo_150 fX12_81 (by first | exact ma_up_s _ _ _ | exact (ma_up_n (by decide)).trans (ma_up_s _ _ _) | exact (ma_up_n (by decide)).trans ((ma_up_n (by decide)).trans (ma_up_s _ _ _)) | exact (ma_up_n (by decide)).trans ((ma_up_n (by decide)).trans ((ma_up_n (by decide)).trans (ma_up_s _ _ _))) | exact (ma_up_n (by decide)).trans ((ma_up_n (by decide)).trans ((ma_up_n (by decide)).trans ((ma_up_n (by decide)).trans (ma_up_s _ _ _)))) | exact (ma_up_n (by decide)).trans ((ma_up_n (by decide)).trans ((ma_up_n (by decide)).trans ((ma_up_n (by decide)).trans ((ma_up_n (by decide)).trans (ma_up_s _ _ _))))) | exact (ma_up_n (by decide)).trans ((ma_up_n (by decide)).trans ((ma_up_n (by decide)).trans ((ma_up_n (by decide)).trans ((ma_up_n (by decide)).trans ((ma_up_n (by decide)).trans (ma_up_s _ _ _)))))) | exact (ma_up_n (by decide)).trans ((ma_up_n (by decide)).trans ((ma_up_n (by decide)).trans ((ma_up_n (by decide)).trans ((ma_up_n (by decide)).trans ((ma_up_n (by decide)).trans ((ma_up_n (by decide)).trans (ma_up_s _ _ _))))))) | exact (ma_up_n (by decide)).trans ((ma_up_n (by decide)).trans ((ma_up_n (by decide)).trans ((ma_up_n (by decide)).trans ((ma_up_n (by decide)).trans ((ma_up_n (by decide)).trans ((ma_up_n (by decide)).trans ((ma_up_n (by decide)).trans (ma_up_s _ _ _)))))))) | exact (ma_up_n (by decide)).trans ((ma_up_n (by decide)).trans (by assumption))) (by rfl) ?_
            refine ma_iconst dX12_goTwo_153 ?_
            refine ma_iald dX12_goTwo_154 (by first | exact ma_up_s _ _ _ | exact (ma_up_n (by decide)).trans (ma_up_s _ _ _) | exact (ma_up_n (by decide)).trans ((ma_up_n (by decide)).trans (ma_up_s _ _ _)) | exact (ma_up_n (by decide)).trans ((ma_up_n (by decide)).trans ((ma_up_n (by decide)).trans (ma_up_s _ _ _))) | exact (ma_up_n (by decide)).trans ((ma_up_n (by decide)).trans ((ma_up_n (by decide)).trans ((ma_up_n (by decide)).trans (ma_up_s _ _ _)))) | exact (ma_up_n (by decide)).trans ((ma_up_n (by decide)).trans ((ma_up_n (by decide)).trans ((ma_up_n (by decide)).trans ((ma_up_n (by decide)).trans (ma_up_s _ _ _))))) | exact (ma_up_n (by decide)).trans ((ma_up_n (by decide)).trans ((ma_up_n (by decide)).trans ((ma_up_n (by decide)).trans ((ma_up_n (by decide)).trans ((ma_up_n (by decide)).trans (ma_up_s _ _ _)))))) | exact (ma_up_n (by decide)).trans ((ma_up_n (by decide)).trans ((ma_up_n (by decide)).trans ((ma_up_n (by decide)).trans ((ma_up_n (by decide)).trans ((ma_up_n (by decide)).trans ((ma_up_n (by decide)).trans (ma_up_s _ _ _))))))) | exact (ma_up_n (by decide)).trans ((ma_up_n (by decide)).trans ((ma_up_n (by decide)).trans ((ma_up_n (by decide)).trans ((ma_up_n (by decide)).trans ((ma_up_n (by decide)).trans ((ma_up_n (by decide)).trans ((ma_up_n (by decide)).trans (ma_up_s _ _ _)))))))) | exact (ma_up_n (by decide)).trans ((ma_up_n (by decide)).trans (by assumption))) (by omega) (by omega) (by omega) ?_
            refine ma_aload_n dX12_goTwo_155 rfl ?_
            refine ma_getf dX12_goTwo_156 fX12_81 (by first | exact ma_up_s _ _ _ | exact (ma_up_n (by decide)).trans (ma_up_s _ _ _) | exact (ma_up_n (by decide)).trans ((ma_up_n (by decide)).trans (ma_up_s _ _ _)) | exact (ma_up_n (by decide)).trans ((ma_up_n (by decide)).trans ((ma_up_n (by decide)).trans (ma_up_s _ _ _))) | exact (ma_up_n (by decide)).trans ((ma_up_n (by decide)).trans ((ma_up_n (by decide)).trans ((ma_up_n (by decide)).trans (ma_up_s _ _ _)))) | exact (ma_up_n (by decide)).trans ((ma_up_n (by decide)).trans ((ma_up_n (by decide)).trans ((ma_up_n (by decide)).trans ((ma_up_n (by decide)).trans (ma_up_s _ _ _))))) | exact (ma_up_n (by decide)).trans ((ma_up_n (by decide)).trans ((ma_up_n (by decide)).trans ((ma_up_n (by decide)).trans ((ma_up_n (by decide)).trans ((ma_up_n (by decide)).trans (ma_up_s _ _ _)))))) | exact (ma_up_n (by decide)).trans ((ma_up_n (by decide)).trans ((ma_up_n (by decide)).trans ((ma_up_n (by decide)).trans ((ma_up_n (by decide)).trans ((ma_up_n (by decide)).trans ((ma_up_n (by decide)).trans (ma_up_s _ _ _))))))) | exact (ma_up_n (by decide)).trans ((ma_up_n (by decide)).trans ((ma_up_n (by decide)).trans ((ma_up_n (by decide)).trans ((ma_up_n (by decide)).trans ((ma_up_n (by decide)).trans ((ma_up_n (by decide)).trans ((ma_up_n (by decide)).trans (ma_up_s _ _ _)))))))) | exact (ma_up_n (by decide)).trans ((ma_up_n (by decide)).trans (by assumption))) (by rfl) ?_
            refine ma_iconst dX12_goTwo_159 ?_
            refine ma_iald dX12_goTwo_160 (by first | exact ma_up_s _ _ _ | exact (ma_up_n (by decide)).trans (ma_up_s _ _ _) | exact (ma_up_n (by decide)).trans ((ma_up_n (by decide)).trans (ma_up_s _ _ _)) | exact (ma_up_n (by decide)).trans ((ma_up_n (by decide)).trans ((ma_up_n (by decide)).trans (ma_up_s _ _ _))) | exact (ma_up_n (by decide)).trans ((ma_up_n (by decide)).trans ((ma_up_n (by decide)).trans ((ma_up_n (by decide)).trans (ma_up_s _ _ _)))) | exact (ma_up_n (by decide)).trans ((ma_up_n (by decide)).trans ((ma_up_n (by decide)).trans ((ma_up_n (by decide)).trans ((ma_up_n (by decide)).trans (ma_up_s _ _ _))))) | exact (ma_up_n (by decide)).trans ((ma_up_n (by decide)).trans ((ma_up_n (by decide)).trans ((ma_up_n (by decide)).trans ((ma_up_n (by decide)).trans ((ma_up_n (by decide)).trans (ma_up_s _ _ _)))))) | exact (ma_up_n (by decide)).trans ((ma_up_n (by decide)).trans ((ma_up_n (by decide)).trans ((ma_up_n (by decide)).trans ((ma_up_n (by decide)).trans ((ma_up_n (by decide)).trans ((ma_up_n (by decide)).trans (ma_up_s _ _ _))))))) | exact (ma_up_n (by decide)).trans ((ma_up_n (by decide)).trans ((ma_up_n (by decide)).trans ((ma_up_n (by decide)).trans ((ma_up_n (by decide)).trans ((ma_up_n (by decide)).trans ((ma_up_n (by decide)).trans ((ma_up_n (by decide)).trans (ma_up_s _ _ _)))))))) | exact (ma_up_n (by decide)).trans ((ma_up_n (by decide)).trans (by assumption))) (by omega) (by omega) (by omega) ?_
            refine ma_aload_n dX12_goTwo_161 rfl ?_
            refine ma_getf dX12_goTwo_162 fX12_81 (by first | exact ma_up_s _ _ _ | exact (ma_up_n (by decide)).trans (ma_up_s _ _ _) | exact (ma_up_n (by decide)).trans ((ma_up_n (by decide)).trans (ma_up_s _ _ _)) | exact (ma_up_n (by decide)).trans ((ma_up_n (by decide)).trans ((ma_up_n (by decide)).trans (ma_up_s _ _ _))) | exact (ma_up_n (by decide)).trans ((ma_up_n (by decide)).trans ((ma_up_n (by decide)).trans ((ma_up_n (by decide)).trans (ma_up_s _ _ _)))) | exact (ma_up_n (by decide)).trans ((ma_up_n (by decide)).trans ((ma_up_n (by decide)).trans ((ma_up_n (by decide)).trans ((ma_up_n (by decide)).trans (ma_up_s _ _ _))))) | exact (ma_up_n (by decide)).trans ((ma_up_n (by decide)).trans ((ma_up_n (by decide)).trans ((ma_up_n (by decide)).trans ((ma_up_n (by decide)).trans ((ma_up_n (by decide)).trans (ma_up_s _ _ _)))))) | exact (ma_up_n (by decide)).trans ((ma_up_n (by decide)).trans ((ma_up_n (by decide)).trans ((ma_up_n (by decide)).trans ((ma_up_n (by decide)).trans ((ma_up_n (by decide)).trans ((ma_up_n (by decide)).trans (ma_up_s _ _ _))))))) | exact (ma_up_n (by decide)).trans ((ma_up_n (by decide)).trans ((ma_up_n (by decide)).trans ((ma_up_n (by decide)).trans ((ma_up_n (by decide)).trans ((ma_up_n (by decide)).trans ((ma_up_n (by decide)).trans ((ma_up_n (by decide)).trans (ma_up_s _ _ _)))))))) | exact (ma_up_n (by decide)).trans ((ma_up_n (by decide)).trans (by assumption))) (by rfl) ?_
            refine ma_iconst dX12_goTwo_165 ?_
            refine ma_iald dX12_goTwo_166 (by first | exact ma_up_s _ _ _ | exact (ma_up_n (by decide)).trans (ma_up_s _ _ _) | exact (ma_up_n (by decide)).trans ((ma_up_n (by decide)).trans (ma_up_s _ _ _)) | exact (ma_up_n (by decide)).trans ((ma_up_n (by decide)).trans ((ma_up_n (by decide)).trans (ma_up_s _ _ _))) | exact (ma_up_n (by decide)).trans ((ma_up_n (by decide)).trans ((ma_up_n (by decide)).trans ((ma_up_n (by decide)).trans (ma_up_s _ _ _)))) | exact (ma_up_n (by decide)).trans ((ma_up_n (by decide)).trans ((ma_up_n (by decide)).trans ((ma_up_n (by decide)).trans ((ma_up_n (by decide)).trans (ma_up_s _ _ _))))) | exact (ma_up_n (by decide)).trans ((ma_up_n (by decide)).trans ((ma_up_n (by decide)).trans ((ma_up_n (by decide)).trans ((ma_up_n (by decide)).trans ((ma_up_n (by decide)).trans (ma_up_s _ _ _)))))) | exact (ma_up_n (by decide)).trans ((ma_up_n (by decide)).trans ((ma_up_n (by decide)).trans ((ma_up_n (by decide)).trans ((ma_up_n (by decide)).trans ((ma_up_n (by decide)).trans ((ma_up_n (by decide)).trans (ma_up_s _ _ _))))))) | exact (ma_up_n (by decide)).trans ((ma_up_n (by decide)).trans ((ma_up_n (by decide)).trans ((ma_up_n (by decide)).trans ((ma_up_n (by decide)).trans ((ma_up_n (by decide)).trans ((ma_up_n (by decide)).trans ((ma_up_n (by decide)).trans (ma_up_s _ _ _)))))))) | exact (ma_up_n (by decide)).trans ((ma_up_n (by decide)).trans (by assumption))) (by omega) (by omega) (by omega) ?_
            refine ma_cV [_, _, _, _, _] dX12_goTwo_167 wX12_goes lX12_405 iX12_goes sX12_goes rfl (by first | exact ma_up_s _ _ _ | exact (ma_up_n (by decide)).trans (ma_up_s _ _ _) | exact (ma_up_n (by decide)).trans ((ma_up_n (by decide)).trans (ma_up_s _ _ _)) | exact (ma_up_n (by decide)).trans ((ma_up_n (by decide)).trans ((ma_up_n (by decide)).trans (ma_up_s _ _ _))) | exact (ma_up_n (by decide)).trans ((ma_up_n (by decide)).trans ((ma_up_n (by decide)).trans ((ma_up_n (by decide)).trans (ma_up_s _ _ _)))) | exact (ma_up_n (by decide)).trans ((ma_up_n (by decide)).trans ((ma_up_n (by decide)).trans ((ma_up_n (by decide)).trans ((ma_up_n (by decide)).trans (ma_up_s _ _ _))))) | exact (ma_up_n (by decide)).trans ((ma_up_n (by decide)).trans ((ma_up_n (by decide)).trans ((ma_up_n (by decide)).trans ((ma_up_n (by decide)).trans ((ma_up_n (by decide)).trans (ma_up_s _ _ _)))))) | exact (ma_up_n (by decide)).trans ((ma_up_n (by decide)).trans ((ma_up_n (by decide)).trans ((ma_up_n (by decide)).trans ((ma_up_n (by decide)).trans ((ma_up_n (by decide)).trans ((ma_up_n (by decide)).trans (ma_up_s _ _ _))))))) | exact (ma_up_n (by decide)).trans ((ma_up_n (by decide)).trans ((ma_up_n (by decide)).trans ((ma_up_n (by decide)).trans ((ma_up_n (by decide)).trans ((ma_up_n (by decide)).trans ((ma_up_n (by decide)).trans ((ma_up_n (by decide)).trans (ma_up_s _ _ _)))))))) | exact (ma_up_n (by decide)).trans ((ma_up_n (by decide)).trans (by assumption))) (Nat.le_of_ble_eq_true rfl) ?_
            refine c_X12_goes ((ma_up_s _ _ _)) ((ma_up_n (by decide)).trans ((ma_up_n (by decide)).trans ((ma_up_n (by decide)).trans (g92)))) ((ma_up_n (by decide)).trans ((ma_up_n (by decide)).trans ((ma_up_n (by decide)).trans (g93)))) (g := 0) rfl (by decide) ?_
            refine ma_aload_n dX12_goTwo_170 rfl ?_
            refine ma_iload dX12_goTwo_171 rfl ?_
            refine ma_bipush dX12_goTwo_173 ?_
            refine ma_kdiv dX12_goTwo_175 (by constructor <;> omega) (by constructor <;> omega) ?_
            rw [cp.2.1]
            refine ma_aload_n dX12_goTwo_176 rfl ?_
            refine ma_getf dX12_goTwo_177 fX12_84 (by first | exact ma_up_s _ _ _ | exact (ma_up_n (by decide)).trans (ma_up_s _ _ _) | exact (ma_up_n (by decide)).trans ((ma_up_n (by decide)).trans (ma_up_s _ _ _)) | exact (ma_up_n (by decide)).trans ((ma_up_n (by decide)).trans ((ma_up_n (by decide)).trans (ma_up_s _ _ _))) | exact (ma_up_n (by decide)).trans ((ma_up_n (by decide)).trans ((ma_up_n (by decide)).trans ((ma_up_n (by decide)).trans (ma_up_s _ _ _)))) | exact (ma_up_n (by decide)).trans ((ma_up_n (by decide)).trans ((ma_up_n (by decide)).trans ((ma_up_n (by decide)).trans ((ma_up_n (by decide)).trans (ma_up_s _ _ _))))) | exact (ma_up_n (by decide)).trans ((ma_up_n (by decide)).trans ((ma_up_n (by decide)).trans ((ma_up_n (by decide)).trans ((ma_up_n (by decide)).trans ((ma_up_n (by decide)).trans (ma_up_s _ _ _)))))) | exact (ma_up_n (by decide)).trans ((ma_up_n (by decide)).trans ((ma_up_n (by decide)).trans ((ma_up_n (by decide)).trans ((ma_up_n (by decide)).trans ((ma_up_n (by decide)).trans ((ma_up_n (by decide)).trans (ma_up_s _ _ _))))))) | exact (ma_up_n (by decide)).trans ((ma_up_n (by decide)).trans ((ma_up_n (by decide)).trans ((ma_up_n (by decide)).trans ((ma_up_n (by decide)).trans ((ma_up_n (by decide)).trans ((ma_up_n (by decide)).trans ((ma_up_n (by decide)).trans (ma_up_s _ _ _)))))))) | exact (ma_up_n (by decide)).trans ((ma_up_n (by decide)).trans (by assumption))) (by rfl) ?_
            refine ma_iconst dX12_goTwo_180 ?_
            refine ma_iald dX12_goTwo_181 (by first | exact ma_up_s _ _ _ | exact (ma_up_n (by decide)).trans (ma_up_s _ _ _) | exact (ma_up_n (by decide)).trans ((ma_up_n (by decide)).trans (ma_up_s _ _ _)) | exact (ma_up_n (by decide)).trans ((ma_up_n (by decide)).trans ((ma_up_n (by decide)).trans (ma_up_s _ _ _))) | exact (ma_up_n (by decide)).trans ((ma_up_n (by decide)).trans ((ma_up_n (by decide)).trans ((ma_up_n (by decide)).trans (ma_up_s _ _ _)))) | exact (ma_up_n (by decide)).trans ((ma_up_n (by decide)).trans ((ma_up_n (by decide)).trans ((ma_up_n (by decide)).trans ((ma_up_n (by decide)).trans (ma_up_s _ _ _))))) | exact (ma_up_n (by decide)).trans ((ma_up_n (by decide)).trans ((ma_up_n (by decide)).trans ((ma_up_n (by decide)).trans ((ma_up_n (by decide)).trans ((ma_up_n (by decide)).trans (ma_up_s _ _ _)))))) | exact (ma_up_n (by decide)).trans ((ma_up_n (by decide)).trans ((ma_up_n (by decide)).trans ((ma_up_n (by decide)).trans ((ma_up_n (by decide)).trans ((ma_up_n (by decide)).trans ((ma_up_n (by decide)).trans (ma_up_s _ _ _))))))) | exact (ma_up_n (by decide)).trans ((ma_up_n (by decide)).trans ((ma_up_n (by decide)).trans ((ma_up_n (by decide)).trans ((ma_up_n (by decide)).trans ((ma_up_n (by decide)).trans ((ma_up_n (by decide)).trans ((ma_up_n (by decide)).trans (ma_up_s _ _ _)))))))) | exact (ma_up_n (by decide)).trans ((ma_up_n (by decide)).trans (by assumption))) (by omega) (by omega) (by omega) ?_
            refine ma_aload_n dX12_goTwo_182 rfl ?_
            refine ma_getf dX12_goTwo_183 fX12_84 (by first | exact ma_up_s _ _ _ | exact (ma_up_n (by decide)).trans (ma_up_s _ _ _) | exact (ma_up_n (by decide)).trans ((ma_up_n (by decide)).trans (ma_up_s _ _ _)) | exact (ma_up_n (by decide)).trans ((ma_up_n (by decide)).trans ((ma_up_n (by decide)).trans (ma_up_s _ _ _))) | exact (ma_up_n (by decide)).trans ((ma_up_n (by decide)).trans ((ma_up_n (by decide)).trans ((ma_up_n (by decide)).trans (ma_up_s _ _ _)))) | exact (ma_up_n (by decide)).trans ((ma_up_n (by decide)).trans ((ma_up_n (by decide)).trans ((ma_up_n (by decide)).trans ((ma_up_n (by decide)).trans (ma_up_s _ _ _))))) | exact (ma_up_n (by decide)).trans ((ma_up_n (by decide)).trans ((ma_up_n (by decide)).trans ((ma_up_n (by decide)).trans ((ma_up_n (by decide)).trans ((ma_up_n (by decide)).trans (ma_up_s _ _ _)))))) | exact (ma_up_n (by decide)).trans ((ma_up_n (by decide)).trans ((ma_up_n (by decide)).trans ((ma_up_n (by decide)).trans ((ma_up_n (by decide)).trans ((ma_up_n (by decide)).trans ((ma_up_n (by decide)).trans (ma_up_s _ _ _))))))) | exact (ma_up_n (by decide)).trans ((ma_up_n (by decide)).trans ((ma_up_n (by decide)).trans ((ma_up_n (by decide)).trans ((ma_up_n (by decide)).trans ((ma_up_n (by decide)).trans ((ma_up_n (by decide)).trans ((ma_up_n (by decide)).trans (ma_up_s _ _ _)))))))) | exact (ma_up_n (by decide)).trans ((ma_up_n (by decide)).trans (by assumption))) (by rfl) ?_
            refine ma_iconst dX12_goTwo_186 ?_
            refine ma_iald dX12_goTwo_187 (by first | exact ma_up_s _ _ _ | exact (ma_up_n (by decide)).trans (ma_up_s _ _ _) | exact (ma_up_n (by decide)).trans ((ma_up_n (by decide)).trans (ma_up_s _ _ _)) | exact (ma_up_n (by decide)).trans ((ma_up_n (by decide)).trans ((ma_up_n (by decide)).trans (ma_up_s _ _ _))) | exact (ma_up_n (by decide)).trans ((ma_up_n (by decide)).trans ((ma_up_n (by decide)).trans ((ma_up_n (by decide)).trans (ma_up_s _ _ _)))) | exact (ma_up_n (by decide)).trans ((ma_up_n (by decide)).trans ((ma_up_n (by decide)).trans ((ma_up_n (by decide)).trans ((ma_up_n (by decide)).trans (ma_up_s _ _ _))))) | exact (ma_up_n (by decide)).trans ((ma_up_n (by decide)).trans ((ma_up_n (by decide)).trans ((ma_up_n (by decide)).trans ((ma_up_n (by decide)).trans ((ma_up_n (by decide)).trans (ma_up_s _ _ _)))))) | exact (ma_up_n (by decide)).trans ((ma_up_n (by decide)).trans ((ma_up_n (by decide)).trans ((ma_up_n (by decide)).trans ((ma_up_n (by decide)).trans ((ma_up_n (by decide)).trans ((ma_up_n (by decide)).trans (ma_up_s _ _ _))))))) | exact (ma_up_n (by decide)).trans ((ma_up_n (by decide)).trans ((ma_up_n (by decide)).trans ((ma_up_n (by decide)).trans ((ma_up_n (by decide)).trans ((ma_up_n (by decide)).trans ((ma_up_n (by decide)).trans ((ma_up_n (by decide)).trans (ma_up_s _ _ _)))))))) | exact (ma_up_n (by decide)).trans ((ma_up_n (by decide)).trans (by assumption))) (by omega) (by omega) (by omega) ?_
            refine ma_aload_n dX12_goTwo_188 rfl ?_
            refine ma_getf dX12_goTwo_189 fX12_84 (by first | exact ma_up_s _ _ _ | exact (ma_up_n (by decide)).trans (ma_up_s _ _ _) | exact (ma_up_n (by decide)).trans ((ma_up_n (by decide)).trans (ma_up_s _ _ _)) | exact (ma_up_n (by decide)).trans ((ma_up_n (by decide)).trans ((ma_up_n (by decide)).trans (ma_up_s _ _ _))) | exact (ma_up_n (by decide)).trans ((ma_up_n (by decide)).trans ((ma_up_n (by decide)).trans ((ma_up_n (by decide)).trans (ma_up_s _ _ _)))) | exact (ma_up_n (by decide)).trans ((ma_up_n (by decide)).trans ((ma_up_n (by decide)).trans ((ma_up_n (by decide)).trans ((ma_up_n (by decide)).trans (ma_up_s _ _ _))))) | exact (ma_up_n (by decide)).trans ((ma_up_n (by decide)).trans ((ma_up_n (by decide)).trans ((ma_up_n (by decide)).trans ((ma_up_n (by decide)).trans ((ma_up_n (by decide)).trans (ma_up_s _ _ _)))))) | exact (ma_up_n (by decide)).trans ((ma_up_n (by decide)).trans ((ma_up_n (by decide)).trans ((ma_up_n (by decide)).trans ((ma_up_n (by decide)).trans ((ma_up_n (by decide)).trans ((ma_up_n (by decide)).trans (ma_up_s _ _ _))))))) | exact (ma_up_n (by decide)).trans ((ma_up_n (by decide)).trans ((ma_up_n (by decide)).trans ((ma_up_n (by decide)).trans ((ma_up_n (by decide)).trans ((ma_up_n (by decide)).trans ((ma_up_n (by decide)).trans ((ma_up_n (by decide)).trans (ma_up_s _ _ _)))))))) | exact (ma_up_n (by decide)).trans ((ma_up_n (by decide)).trans (by assumption))) (by rfl) ?_
            refine ma_iconst dX12_goTwo_192 ?_
            refine ma_iald dX12_goTwo_193 (by first | exact ma_up_s _ _ _ | exact (ma_up_n (by decide)).trans (ma_up_s _ _ _) | exact (ma_up_n (by decide)).trans ((ma_up_n (by decide)).trans (ma_up_s _ _ _)) | exact (ma_up_n (by decide)).trans ((ma_up_n (by decide)).trans ((ma_up_n (by decide)).trans (ma_up_s _ _ _))) | exact (ma_up_n (by decide)).trans ((ma_up_n (by decide)).trans ((ma_up_n (by decide)).trans ((ma_up_n (by decide)).trans (ma_up_s _ _ _)))) | exact (ma_up_n (by decide)).trans ((ma_up_n (by decide)).trans ((ma_up_n (by decide)).trans ((ma_up_n (by decide)).trans ((ma_up_n (by decide)).trans (ma_up_s _ _ _))))) | exact (ma_up_n (by decide)).trans ((ma_up_n (by decide)).trans ((ma_up_n (by decide)).trans ((ma_up_n (by decide)).trans ((ma_up_n (by decide)).trans ((ma_up_n (by decide)).trans (ma_up_s _ _ _)))))) | exact (ma_up_n (by decide)).trans ((ma_up_n (by decide)).trans ((ma_up_n (by decide)).trans ((ma_up_n (by decide)).trans ((ma_up_n (by decide)).trans ((ma_up_n (by decide)).trans ((ma_up_n (by decide)).trans (ma_up_s _ _ _))))))) | exact (ma_up_n (by decide)).trans ((ma_up_n (by decide)).trans ((ma_up_n (by decide)).trans ((ma_up_n (by decide)).trans ((ma_up_n (by decide)).trans ((ma_up_n (by decide)).trans ((ma_up_n (by decide)).trans ((ma_up_n (by decide)).trans (ma_up_s _ _ _)))))))) | exact (ma_up_n (by decide)).trans ((ma_up_n (by decide)).trans (by assumption))) (by omega) (by omega) (by omega) ?_
            refine ma_aload_n dX12_goTwo_194 rfl ?_
            refine ma_getf dX12_goTwo_195 fX12_84 (by first | exact ma_up_s _ _ _ | exact (ma_up_n (by decide)).trans (ma_up_s _ _ _) | exact (ma_up_n (by decide)).trans ((ma_up_n (by decide)).trans (ma_up_s _ _ _)) | exact (ma_up_n (by decide)).trans ((ma_up_n (by decide)).trans ((ma_up_n (by decide)).trans (ma_up_s _ _ _))) | exact (ma_up_n (by decide)).trans ((ma_up_n (by decide)).trans ((ma_up_n (by decide)).trans ((ma_up_n (by decide)).trans (ma_up_s _ _ _)))) | exact (ma_up_n (by decide)).trans ((ma_up_n (by decide)).trans ((ma_up_n (by decide)).trans ((ma_up_n (by decide)).trans ((ma_up_n (by decide)).trans (ma_up_s _ _ _))))) | exact (ma_up_n (by decide)).trans ((ma_up_n (by decide)).trans ((ma_up_n (by decide)).trans ((ma_up_n (by decide)).trans ((ma_up_n (by decide)).trans ((ma_up_n (by decide)).trans (ma_up_s _ _ _)))))) | exact (ma_up_n (by decide)).trans ((ma_up_n (by decide)).trans ((ma_up_n (by decide)).trans ((ma_up_n (by decide)).trans ((ma_up_n (by decide)).trans ((ma_up_n (by decide)).trans ((ma_up_n (by decide)).trans (ma_up_s _ _ _))))))) | exact (ma_up_n (by decide)).trans ((ma_up_n (by decide)).trans ((ma_up_n (by decide)).trans ((ma_up_n (by decide)).trans ((ma_up_n (by decide)).trans ((ma_up_n (by decide)).trans ((ma_up_n (by decide)).trans ((ma_up_n (by decide)).trans (ma_up_s _ _ _)))))))) | exact (ma_up_n (by decide)).trans ((ma_up_n (by decide)).trans (by assumption))) (by rfl) ?_
            refine ma_iconst dX12_goTwo_198 ?_
            refine ma_iald dX12_goTwo_199 (by first | exact ma_up_s _ _ _ | exact (ma_up_n (by decide)).trans (ma_up_s _ _ _) | exact (ma_up_n (by decide)).trans ((ma_up_n (by decide)).trans (ma_up_s _ _ _)) | exact (ma_up_n (by decide)).trans ((ma_up_n (by decide)).trans ((ma_up_n (by decide)).trans (ma_up_s _ _ _))) | exact (ma_up_n (by decide)).trans ((ma_up_n (by decide)).trans ((ma_up_n (by decide)).trans ((ma_up_n (by decide)).trans (ma_up_s _ _ _)))) | exact (ma_up_n (by decide)).trans ((ma_up_n (by decide)).trans ((ma_up_n (by decide)).trans ((ma_up_n (by decide)).trans ((ma_up_n (by decide)).trans (ma_up_s _ _ _))))) | exact (ma_up_n (by decide)).trans ((ma_up_n (by decide)).trans ((ma_up_n (by decide)).trans ((ma_up_n (by decide)).trans ((ma_up_n (by decide)).trans ((ma_up_n (by decide)).trans (ma_up_s _ _ _)))))) | exact (ma_up_n (by decide)).trans ((ma_up_n (by decide)).trans ((ma_up_n (by decide)).trans ((ma_up_n (by decide)).trans ((ma_up_n (by decide)).trans ((ma_up_n (by decide)).trans ((ma_up_n (by decide)).trans (ma_up_s _ _ _))))))) | exact (ma_up_n (by decide)).trans ((ma_up_n (by decide)).trans ((ma_up_n (by decide)).trans ((ma_up_n (by decide)).trans ((ma_up_n (by decide)).trans ((ma_up_n (by decide)).trans ((ma_up_n (by decide)).trans ((ma_up_n (by decide)).trans (ma_up_s _ _ _)))))))) | exact (ma_up_n (by decide)).trans ((ma_up_n (by decide)).trans (by assumption))) (by omega) (by omega) (by omega) ?_
            refine ma_cV [_, _, _, _, _] dX12_goTwo_200 wX12_goes lX12_405 iX12_goes sX12_goes rfl (by first | exact ma_up_s _ _ _ | exact (ma_up_n (by decide)).trans (ma_up_s _ _ _) | exact (ma_up_n (by decide)).trans ((ma_up_n (by decide)).trans (ma_up_s _ _ _)) | exact (ma_up_n (by decide)).trans ((ma_up_n (by decide)).trans ((ma_up_n (by decide)).trans (ma_up_s _ _ _))) | exact (ma_up_n (by decide)).trans ((ma_up_n (by decide)).trans ((ma_up_n (by decide)).trans ((ma_up_n (by decide)).trans (ma_up_s _ _ _)))) | exact (ma_up_n (by decide)).trans ((ma_up_n (by decide)).trans ((ma_up_n (by decide)).trans ((ma_up_n (by decide)).trans ((ma_up_n (by decide)).trans (ma_up_s _ _ _))))) | exact (ma_up_n (by decide)).trans ((ma_up_n (by decide)).trans ((ma_up_n (by decide)).trans ((ma_up_n (by decide)).trans ((ma_up_n (by decide)).trans ((ma_up_n (by decide)).trans (ma_up_s _ _ _)))))) | exact (ma_up_n (by decide)).trans ((ma_up_n (by decide)).trans ((ma_up_n (by decide)).trans ((ma_up_n (by decide)).trans ((ma_up_n (by decide)).trans ((ma_up_n (by decide)).trans ((ma_up_n (by decide)).trans (ma_up_s _ _ _))))))) | exact (ma_up_n (by decide)).trans ((ma_up_n (by decide)).trans ((ma_up_n (by decide)).trans ((ma_up_n (by decide)).trans ((ma_up_n (by decide)).trans ((ma_up_n (by decide)).trans ((ma_up_n (by decide)).trans ((ma_up_n (by decide)).trans (ma_up_s _ _ _)))))))) | exact (ma_up_n (by decide)).trans ((ma_up_n (by decide)).trans (by assumption))) (Nat.le_of_ble_eq_true rfl) ?_
            refine c_X12_goes ((ma_up_s _ _ _)) ((ma_up_n (by decide)).trans ((ma_up_n (by decide)).trans ((ma_up_s _ _ _)))) ((ma_up_n (by decide)).trans ((ma_up_s _ _ _))) (g := 1) rfl (by decide) ?_
            refine ma_aload_n dX12_goTwo_203 rfl ?_
            refine ma_iconst dX12_goTwo_204 ?_
            refine ma_iconst dX12_goTwo_205 ?_
            refine ma_iconst dX12_goTwo_206 ?_
            refine ma_iconst dX12_goTwo_207 ?_
            refine ma_cV [_, _, _, _] dX12_goTwo_208 wX12_arrives lX12_409 iX12_arrives sX12_arrives rfl (by first | exact ma_up_s _ _ _ | exact (ma_up_n (by decide)).trans (ma_up_s _ _ _) | exact (ma_up_n (by decide)).trans ((ma_up_n (by decide)).trans (ma_up_s _ _ _)) | exact (ma_up_n (by decide)).trans ((ma_up_n (by decide)).trans ((ma_up_n (by decide)).trans (ma_up_s _ _ _))) | exact (ma_up_n (by decide)).trans ((ma_up_n (by decide)).trans ((ma_up_n (by decide)).trans ((ma_up_n (by decide)).trans (ma_up_s _ _ _)))) | exact (ma_up_n (by decide)).trans ((ma_up_n (by decide)).trans ((ma_up_n (by decide)).trans ((ma_up_n (by decide)).trans ((ma_up_n (by decide)).trans (ma_up_s _ _ _))))) | exact (ma_up_n (by decide)).trans ((ma_up_n (by decide)).trans ((ma_up_n (by decide)).trans ((ma_up_n (by decide)).trans ((ma_up_n (by decide)).trans ((ma_up_n (by decide)).trans (ma_up_s _ _ _)))))) | exact (ma_up_n (by decide)).trans ((ma_up_n (by decide)).trans ((ma_up_n (by decide)).trans ((ma_up_n (by decide)).trans ((ma_up_n (by decide)).trans ((ma_up_n (by decide)).trans ((ma_up_n (by decide)).trans (ma_up_s _ _ _))))))) | exact (ma_up_n (by decide)).trans ((ma_up_n (by decide)).trans ((ma_up_n (by decide)).trans ((ma_up_n (by decide)).trans ((ma_up_n (by decide)).trans ((ma_up_n (by decide)).trans ((ma_up_n (by decide)).trans ((ma_up_n (by decide)).trans (ma_up_s _ _ _)))))))) | exact (ma_up_n (by decide)).trans ((ma_up_n (by decide)).trans (by assumption))) (Nat.le_of_ble_eq_true rfl) ?_
            refine c_X12_arrives ((ma_up_s _ _ _)) ((ma_up_n (by decide)).trans ((ma_up_n (by decide)).trans ((ma_up_n (by decide)).trans ((ma_up_n (by decide)).trans ((ma_up_n (by decide)).trans ((ma_up_n (by decide)).trans ((ma_up_n (by decide)).trans ((ma_up_n (by decide)).trans ((ma_up_n (by decide)).trans (g94)))))))))) (g := 0) rfl (by decide) ?_
            refine ma_aload_n dX12_goTwo_211 rfl ?_
            refine ma_iconst dX12_goTwo_212 ?_
            refine ma_iconst dX12_goTwo_213 ?_
            refine ma_iconst dX12_goTwo_214 ?_
            refine ma_iconst dX12_goTwo_215 ?_
            refine ma_cV [_, _, _, _] dX12_goTwo_216 wX12_arrives lX12_409 iX12_arrives sX12_arrives rfl (by first | exact ma_up_s _ _ _ | exact (ma_up_n (by decide)).trans (ma_up_s _ _ _) | exact (ma_up_n (by decide)).trans ((ma_up_n (by decide)).trans (ma_up_s _ _ _)) | exact (ma_up_n (by decide)).trans ((ma_up_n (by decide)).trans ((ma_up_n (by decide)).trans (ma_up_s _ _ _))) | exact (ma_up_n (by decide)).trans ((ma_up_n (by decide)).trans ((ma_up_n (by decide)).trans ((ma_up_n (by decide)).trans (ma_up_s _ _ _)))) | exact (ma_up_n (by decide)).trans ((ma_up_n (by decide)).trans ((ma_up_n (by decide)).trans ((ma_up_n (by decide)).trans ((ma_up_n (by decide)).trans (ma_up_s _ _ _))))) | exact (ma_up_n (by decide)).trans ((ma_up_n (by decide)).trans ((ma_up_n (by decide)).trans ((ma_up_n (by decide)).trans ((ma_up_n (by decide)).trans ((ma_up_n (by decide)).trans (ma_up_s _ _ _)))))) | exact (ma_up_n (by decide)).trans ((ma_up_n (by decide)).trans ((ma_up_n (by decide)).trans ((ma_up_n (by decide)).trans ((ma_up_n (by decide)).trans ((ma_up_n (by decide)).trans ((ma_up_n (by decide)).trans (ma_up_s _ _ _))))))) | exact (ma_up_n (by decide)).trans ((ma_up_n (by decide)).trans ((ma_up_n (by decide)).trans ((ma_up_n (by decide)).trans ((ma_up_n (by decide)).trans ((ma_up_n (by decide)).trans ((ma_up_n (by decide)).trans ((ma_up_n (by decide)).trans (ma_up_s _ _ _)))))))) | exact (ma_up_n (by decide)).trans ((ma_up_n (by decide)).trans (by assumption))) (Nat.le_of_ble_eq_true rfl) ?_
            refine c_X12_arrives ((ma_up_s _ _ _)) ((ma_up_n (by decide)).trans ((ma_up_s _ _ _))) (g := 1) rfl (by decide) ?_
            refine ma_aload_n dX12_goTwo_219 rfl ?_
            refine ma_iconst dX12_goTwo_220 ?_
            refine ma_iconst dX12_goTwo_221 ?_
            refine ma_iconst dX12_goTwo_222 ?_
            refine ma_iconst dX12_goTwo_223 ?_
            refine ma_cV [_, _, _, _] dX12_goTwo_224 wX12_arrives lX12_409 iX12_arrives sX12_arrives rfl (by first | exact ma_up_s _ _ _ | exact (ma_up_n (by decide)).trans (ma_up_s _ _ _) | exact (ma_up_n (by decide)).trans ((ma_up_n (by decide)).trans (ma_up_s _ _ _)) | exact (ma_up_n (by decide)).trans ((ma_up_n (by decide)).trans ((ma_up_n (by decide)).trans (ma_up_s _ _ _))) | exact (ma_up_n (by decide)).trans ((ma_up_n (by decide)).trans ((ma_up_n (by decide)).trans ((ma_up_n (by decide)).trans (ma_up_s _ _ _)))) | exact (ma_up_n (by decide)).trans ((ma_up_n (by decide)).trans ((ma_up_n (by decide)).trans ((ma_up_n (by decide)).trans ((ma_up_n (by decide)).trans (ma_up_s _ _ _))))) | exact (ma_up_n (by decide)).trans ((ma_up_n (by decide)).trans ((ma_up_n (by decide)).trans ((ma_up_n (by decide)).trans ((ma_up_n (by decide)).trans ((ma_up_n (by decide)).trans (ma_up_s _ _ _)))))) | exact (ma_up_n (by decide)).trans ((ma_up_n (by decide)).trans ((ma_up_n (by decide)).trans ((ma_up_n (by decide)).trans ((ma_up_n (by decide)).trans ((ma_up_n (by decide)).trans ((ma_up_n (by decide)).trans (ma_up_s _ _ _))))))) | exact (ma_up_n (by decide)).trans ((ma_up_n (by decide)).trans ((ma_up_n (by decide)).trans ((ma_up_n (by decide)).trans ((ma_up_n (by decide)).trans ((ma_up_n (by decide)).trans ((ma_up_n (by decide)).trans ((ma_up_n (by decide)).trans (ma_up_s _ _ _)))))))) | exact (ma_up_n (by decide)).trans ((ma_up_n (by decide)).trans (by assumption))) (Nat.le_of_ble_eq_true rfl) ?_
            refine c_X12_arrives ((ma_up_s _ _ _)) ((ma_up_n (by decide)).trans ((ma_up_s _ _ _))) (g := 2) rfl (by decide) ?_
            refine ma_aload_n dX12_goTwo_227 rfl ?_
            refine ma_aload_n dX12_goTwo_228 rfl ?_
            refine ma_cV [_] dX12_goTwo_229 wX12_move lX12_413 iX12_move sX12_move rfl (by first | exact ma_up_s _ _ _ | exact (ma_up_n (by decide)).trans (ma_up_s _ _ _) | exact (ma_up_n (by decide)).trans ((ma_up_n (by decide)).trans (ma_up_s _ _ _)) | exact (ma_up_n (by decide)).trans ((ma_up_n (by decide)).trans ((ma_up_n (by decide)).trans (ma_up_s _ _ _))) | exact (ma_up_n (by decide)).trans ((ma_up_n (by decide)).trans ((ma_up_n (by decide)).trans ((ma_up_n (by decide)).trans (ma_up_s _ _ _)))) | exact (ma_up_n (by decide)).trans ((ma_up_n (by decide)).trans ((ma_up_n (by decide)).trans ((ma_up_n (by decide)).trans ((ma_up_n (by decide)).trans (ma_up_s _ _ _))))) | exact (ma_up_n (by decide)).trans ((ma_up_n (by decide)).trans ((ma_up_n (by decide)).trans ((ma_up_n (by decide)).trans ((ma_up_n (by decide)).trans ((ma_up_n (by decide)).trans (ma_up_s _ _ _)))))) | exact (ma_up_n (by decide)).trans ((ma_up_n (by decide)).trans ((ma_up_n (by decide)).trans ((ma_up_n (by decide)).trans ((ma_up_n (by decide)).trans ((ma_up_n (by decide)).trans ((ma_up_n (by decide)).trans (ma_up_s _ _ _))))))) | exact (ma_up_n (by decide)).trans ((ma_up_n (by decide)).trans ((ma_up_n (by decide)).trans ((ma_up_n (by decide)).trans ((ma_up_n (by decide)).trans ((ma_up_n (by decide)).trans ((ma_up_n (by decide)).trans ((ma_up_n (by decide)).trans (ma_up_s _ _ _)))))))) | exact (ma_up_n (by decide)).trans ((ma_up_n (by decide)).trans (by assumption))) (Nat.le_of_ble_eq_true rfl) ?_
            obtain ⟨a, X, nw, s, H, T, pl, h1, h2, h3⟩ := hMR ⟨by omega, by omega, by omega, by omega⟩ g (by omega) (by omega)
            have e4 : (4 * x + f) / 4 = x := by omega
            have e5 : (4 * x + f) % 4 = f := by omega
            have pl2 : a = x ∧ ∀ c, 0 ≤ c → c < 4 → (X c ↔ c = f) := by
              rcases pl with z | z | z | z
              · rw [e4, e5] at z; exact ⟨z.2.2.1, z.2.2.2⟩
              · omega
              · omega
              · omega
            obtain ⟨ea, hX⟩ := pl2
            subst ea
            have f03 : 0 ≤ f ∧ f < 4 := ⟨by omega, by omega⟩
            have es : s = t - 2 := by
              rw [h1.1.2.2.1, gs_1 f03 hX, sty_2 (by omega) (by omega) (bx_in hG h1 f03.1 f03.2 ((hX f f03.1 f03.2).mpr rfl)).1 (bx_in hG h1 f03.1 f03.2 ((hX f f03.1 f03.2).mpr rfl)).2.1 (Ne.symm (h1.2.1 f f03.1 f03.2 ((hX f f03.1 f03.2).mpr rfl)).2)]
            have lk := la2_ok f03
            refine m_move (gm := 2) (cm := 3) (la := la2 f) (e := 4) (ix := fun _ => 1) (jn := jn2 f) (nu := nu2 f) ((ma_up_s _ _ _)) (by repeat (first | assumption | refine smo_n (by first | decide | exact nb.1) (by first | decide | exact nb.2.1) ?_ | refine smo_a rfl (by decide) ?_)) ((ma_up_n (nbk 73 (by decide))).trans ((ma_up_n (nbk 94 (by decide))).trans ((ma_up_n (nbk 73 (by decide))).trans ((ma_up_n (nbk 94 (by decide))).trans ((ma_up_n (nbk 73 (by decide))).trans ((ma_up_n (nbk 94 (by decide))).trans ((ma_up_n (nbk 73 (by decide))).trans ((ma_up_n (nbk 93 (by decide))).trans ((ma_up_n (nbk 92 (by decide))).trans ((ma_up_n (nbk 73 (by decide))).trans ((ma_up_n (nbk 93 (by decide))).trans ((ma_up_n (nbk 92 (by decide))).trans ((ma_up_n (nbk 73 (by decide))).trans ((ma_up_n (nbk 98 (by decide))).trans ((ma_up_n (nbk 97 (by decide))).trans (hb)))))))))))))))) nb hG hA h1 h2 h3 ?_ ?_ (by omega) ((ma_up_n (by decide)).trans ((ma_up_n (by decide)).trans ((ma_up_n (by decide)).trans ((ma_up_n (by decide)).trans ((ma_up_n (by decide)).trans ((ma_up_n (by decide)).trans ((ma_up_n (by decide)).trans ((ma_up_n (by decide)).trans ((ma_up_s _ _ _)))))))))) ((ma_up_n (by decide)).trans ((ma_up_n (by decide)).trans ((ma_up_n (by decide)).trans ((ma_up_n (by decide)).trans ((ma_up_n (by decide)).trans ((ma_up_n (by decide)).trans ((ma_up_n (by decide)).trans ((ma_up_s _ _ _))))))))) ((ma_up_n (by decide)).trans ((ma_up_s _ _ _))) rfl rfl (fun h' TH C' q1 q2 q3 q4 q5 q6 q7 => ?_)
            · refine ⟨⟨by decide, lk⟩, ⟨by decide, by decide, rfl, fun c c0 c1 => ?_⟩, fun c c0 c1 hc => ⟨(show (1 : Int) ≤ 1 by decide), (show (1 : Int) < 2 by decide), ?_, fun c' c0' c1' => ?_⟩, fun i i0 i1 => ⟨f, f03.1, f03.2, (hX f f03.1 f03.2).mpr rfl, (show (1 : Int) = i by omega)⟩⟩
              · rw [← (hLO c c0 c1).1]
                rcases four_of c0 c1 with rfl | rfl | rfl | rfl <;> rfl
              · rw [(hX c c0 c1).mp hc]
                rfl
              · have ef := (hX c c0 c1).mp hc
                subst ef
                rw [← (hLO c' c0' c1').2]
                have wi := im_in hp.1 hp.2 c0' c1'
                show _ = OT (im (G (4 * a + c) % 32) c')
                rw [show pX G a c = G (4 * a + c) % 32 from rfl]
                generalize im (G (4 * a + c) % 32) c' = z at wi
                rcases four_of wi.1 wi.2 with rfl | rfl | rfl | rfl <;> rfl
            · exact lcg_two f03 hX rfl rfl rfl rfl rfl rfl rfl rfl rfl rfl rfl rfl
            refine ma_iconst dX12_goTwo_232 ?_
            refine ma_iret dX12_goTwo_233 rfl (K0 ⟨by omega, by omega, by omega, by omega⟩ g (by omega) (by omega) h' _ TH C' ⟨?_, q2, ?_, q3⟩ q4 q5 q6 q7)
            · refine kp_tr ?_ q1
              repeat (first | exact kp_rf _ _ | assumption | refine kp_up (by simp) ?_)
            · repeat (first | exact ki_rf _ | refine ki_u ?_ (by decide))
          · -- 58
            refine ma_bipush dX12_goTwo_58 ?_
            exact ma_iret dX12_goTwo_60 rfl (K3 ⟨by omega, by omega, by omega, by omega⟩ (by omega) (by omega) (by omega))
        · -- 47
          refine ma_bipush dX12_goTwo_47 ?_
          exact ma_iret dX12_goTwo_49 rfl (K2 ⟨by omega, by omega, by omega, by omega⟩ (Or.inr (by omega)))
    · -- k0
      refine ma_rif_ne 24 dX12_goTwo_19 rfl (by decide) (fun c19 => absurd c19 (by decide)) (fun c19 => ?_)
      refine ma_iconst dX12_goTwo_22 ?_
      exact ma_iret dX12_goTwo_23 rfl (K1 (by omega))
  · -- k0
    refine ma_rif_eq 22 dX12_goTwo_10 rfl (by decide) (fun c10 => ?_) (fun c10 => absurd c10 (by decide))
    refine ma_iconst dX12_goTwo_22 ?_
    exact ma_iret dX12_goTwo_23 rfl (K1 (by omega))
