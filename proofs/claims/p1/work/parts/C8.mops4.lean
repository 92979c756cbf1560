theorem ct_no {P : Int → Prop} {k : Int} (k0 : 0 ≤ k) (h : ∀ j, 0 ≤ j → j < k → ¬ P j) : ct P k.toNat = 0 := by
  have a := ct_in P k.toNat
  by_cases z : 0 < ct P k.toNat
  · obtain ⟨x, x0, x1, x2⟩ := ct_pos.mp z
    exact absurd x2 (h x x0 (by omega))
  · omega
theorem ct_yk {P : Int → Prop} {k : Int} (k0 : 0 ≤ k) (h : P k) : ct P (k + 1).toNat = ct P k.toNat + 1 := by
  have s := ct_sn (P := P) k.toNat
  rw [Int.toNat_of_nonneg k0] at s
  rw [show (k + 1).toNat = k.toNat + 1 by omega]
  exact s.1 h
theorem ct_xk {P : Int → Prop} {k : Int} (k0 : 0 ≤ k) (h : ¬ P k) : ct P (k + 1).toNat = ct P k.toNat := by
  have s := ct_sn (P := P) k.toNat
  rw [Int.toNat_of_nonneg k0] at s
  rw [show (k + 1).toNat = k.toNat + 1 by omega]
  have := s.2 h
  omega
/-- the least and how many have it; the greatest and how many have it -/
def EL (g : Int → Int) (k l a : Int) : Prop := IL (fun _ => True) g 1000000 k l ∧ a = ct (fun j => g j = l) k.toNat
def EG (g : Int → Int) (k m b : Int) : Prop := (((∃ c, 0 ≤ c ∧ c < k ∧ g c = m) ∨ m = 0) ∧ 0 ≤ m ∧ ∀ c, 0 ≤ c → c < k → g c ≤ m) ∧ b = ct (fun j => g j = m) k.toNat
theorem el_0 {g : Int → Int} : EL g 0 1000000 0 := ⟨il_0, rfl⟩
theorem em_0 {g : Int → Int} : EG g 0 0 0 := ⟨⟨Or.inr rfl, by decide, fun c c0 c1 => by omega⟩, rfl⟩
theorem el_lt {g : Int → Int} {k l a x : Int} (k0 : 0 ≤ k) (h : EL g k l a) (e : g k = x) (z : x < l) : EL g (k + 1) x (0 + 1) := by
  subst e
  have i := il_y (A := fun _ => True) k0 h.1 trivial
  rw [if_pos z] at i
  refine ⟨i, ?_⟩
  rw [ct_yk (P := fun j => g j = g k) k0 rfl, ct_no k0 (fun j j0 j1 => by have := h.1.2.2 j j0 j1 trivial; omega)]
theorem el_eq {g : Int → Int} {k l a x : Int} (k0 : 0 ≤ k) (h : EL g k l a) (e : g k = x) (z : x = l) : EL g (k + 1) l (a + 1) := by
  have i := il_y (A := fun _ => True) k0 h.1 trivial
  rw [if_neg (by omega)] at i
  refine ⟨i, ?_⟩
  rw [ct_yk k0 (by omega), h.2]
theorem el_gt {g : Int → Int} {k l a x : Int} (k0 : 0 ≤ k) (h : EL g k l a) (e : g k = x) (z : l < x) : EL g (k + 1) l (a + 0) := by
  have i := il_y (A := fun _ => True) k0 h.1 trivial
  rw [if_neg (by omega)] at i
  refine ⟨i, ?_⟩
  rw [ct_xk k0 (by omega), h.2, Int.add_zero]
theorem em_gt {g : Int → Int} {k m b x : Int} (k0 : 0 ≤ k) (h : EG g k m b) (e : g k = x) (z : m < x) : EG g (k + 1) x (0 + 1) := by
  subst e
  obtain ⟨⟨h1, h2, h3⟩, h4⟩ := h
  refine ⟨⟨Or.inl ⟨k, k0, by omega, rfl⟩, by omega, fun c c0 c1 => ?_⟩, ?_⟩
  · rcases Int.lt_or_eq_of_le (show c ≤ k by omega) with y | y
    · have := h3 c c0 y
      omega
    · rw [y]
      exact Int.le_refl _
  · rw [ct_yk (P := fun j => g j = g k) k0 rfl, ct_no k0 (fun j j0 j1 => by have := h3 j j0 j1; omega)]
theorem em_le {g : Int → Int} {k m b x : Int} (k0 : 0 ≤ k) (h : EG g k m b) (e : g k = x) (z : x ≤ m) : ((∃ c, 0 ≤ c ∧ c < k + 1 ∧ g c = m) ∨ m = 0) ∧ 0 ≤ m ∧ ∀ c, 0 ≤ c → c < k + 1 → g c ≤ m := by
  subst e
  obtain ⟨⟨h1, h2, h3⟩, h4⟩ := h
  refine ⟨?_, h2, fun c c0 c1 => ?_⟩
  · rcases h1 with ⟨c, c0, c1, c2⟩ | y
    · exact Or.inl ⟨c, c0, by omega, c2⟩
    · exact Or.inr y
  · rcases Int.lt_or_eq_of_le (show c ≤ k by omega) with y | y
    · exact h3 c c0 y
    · rw [y]
      exact z
theorem em_eq {g : Int → Int} {k m b x : Int} (k0 : 0 ≤ k) (h : EG g k m b) (e : g k = x) (z : x = m) : EG g (k + 1) m (b + 1) := by
  refine ⟨em_le k0 h e (by omega), ?_⟩
  rw [ct_yk k0 (by omega), h.2]
theorem em_lt {g : Int → Int} {k m b x : Int} (k0 : 0 ≤ k) (h : EG g k m b) (e : g k = x) (z : x < m) : EG g (k + 1) m (b + 0) := by
  refine ⟨em_le k0 h e (by omega), ?_⟩
  rw [ct_xk k0 (by omega), h.2, Int.add_zero]
theorem el_b {g : Int → Int} {k l a : Int} (hg : ∀ j, 0 ≤ j → j < k → 0 ≤ g j) (k0 : 0 ≤ k) (k1 : k ≤ 48) (h : EL g k l a) : (0 ≤ l ∧ l ≤ 1000000) ∧ 0 ≤ a ∧ a ≤ 48 := by
  have c := ct_in (fun j => g j = l) k.toNat
  have e := h.2
  refine ⟨⟨?_, h.1.2.1⟩, by omega, by omega⟩
  rcases h.1.1 with ⟨c, c0, c1, -, c3⟩ | z
  · have := hg c c0 c1
    omega
  · omega
theorem em_b {g : Int → Int} {k m b : Int} (hg : ∀ j, 0 ≤ j → j < k → g j ≤ 1000000) (k0 : 0 ≤ k) (k1 : k ≤ 48) (h : EG g k m b) : (0 ≤ m ∧ m ≤ 1000000) ∧ 0 ≤ b ∧ b ≤ 48 := by
  have c := ct_in (fun j => g j = m) k.toNat
  have e := h.2
  refine ⟨⟨h.1.2.1, ?_⟩, by omega, by omega⟩
  rcases h.1.1 with ⟨c, c0, c1, c3⟩ | z
  · have := hg c c0 c1
    omega
  · omega
set_option maxHeartbeats 2000000 in
theorem l_ed35 {h : ma_H} {nx d : Nat} {I : Nat → Int} {t n : Int} {G Aa f F R fi E P : Int → Int} {Q : Option ma_V → ma_H → Nat → Prop} (h74 : h 74 = ci 33 Aa) (hG : VG t G) (hA : AG t G Aa) (hB : BQ t G E P F R) (n0 : n ≤ 48) (hF : FE E fi n (16 * t)) (hn : I 22 = n) (K : ∀ l m a b x6, EL (fun j => dA E (16 * t) (fi j)) n l a → EG (fun j => dA E (16 * t) (fi j)) n m b → ma_J none mX12_edges (d + 7) 0 0 127 [some (vr 73), some (vi l), some (vi m), some (vi a), some (vi b), some (vi n), x6] [] (rh h I f F R fi) nx Q) :
    ∀ (fm : Nat) (k : Int) (l : Int) (m : Int) (a : Int) (b : Int) (x6 : Option ma_V), (0 ≤ k) → (k ≤ n) → (n - k < fm) → (EL (fun j => dA E (16 * t) (fi j)) k l a) → (EG (fun j => dA E (16 * t) (fi j)) k m b) → ma_J none mX12_edges (d + 7) 0 0 35 [some (vr 73), some (vi l), some (vi m), some (vi a), some (vi b), some (vi k), x6] [] (rh h I f F R fi) nx Q := by
  intro fm
  induction fm with
  | zero => intro k l m a b x6 k0 k1 hm hl hg; omega
  | succ fm ih =>
    intro k l m a b x6 k0 k1 hm hl hg
    have ht := hG.1
    have lb := el_b (fun j j0 j1 => by have fb := hF.2.1 j j0 (by omega); exact ((br_b (E := E) (P := P) (G := G) ht).1 (fi j) fb.1 (by omega)).1) k0 (by omega) hl
    have gb := em_b (fun j j0 j1 => by have fb := hF.2.1 j j0 (by omega); exact ((br_b (E := E) (P := P) (G := G) ht).1 (fi j) fb.1 (by omega)).2) k0 (by omega) hg
    refine ma_iload dX12_edges_35 rfl ?_
    refine ma_aload_n dX12_edges_37 rfl ?_
    refine ma_getf dX12_edges_38 fX12_300 (by first | exact rh_73 | exact ((rh_n (by decide)).trans h74) | exact rh_86 | exact rh_87 | exact rh_88) (by rfl) ?_
    rw [hn]
    refine ma_rcmp_ge 127 dX12_edges_41 rfl (by constructor <;> omega) (by constructor <;> omega) (fun c41 => ?_) (fun c41 => ?_)
    · -- 127
      have e : k = n := by omega
      subst e
      exact K l m a b x6 hl hg
    · -- 44
      refine ma_aload_n dX12_edges_44 rfl ?_
      refine ma_aload_n dX12_edges_45 rfl ?_
      refine ma_getf dX12_edges_46 fX12_9 (by first | exact rh_73 | exact ((rh_n (by decide)).trans h74) | exact rh_86 | exact rh_87 | exact rh_88) (by rfl) ?_
      refine ma_aload_n dX12_edges_49 rfl ?_
      refine ma_iload dX12_edges_50 rfl ?_
      refine ma_cV [_] dX12_edges_52 wX12_edgeAt lX12_303 iX12_edgeAt sX12_edgeAt rfl (by first | exact rh_73 | exact ((rh_n (by decide)).trans h74) | exact rh_86 | exact rh_87 | exact rh_88) (Nat.le_of_ble_eq_true rfl) ?_
      refine c_X12_edgeAt rh_73 rh_86 rh_88 hG hB ⟨k0, by omega⟩ (hF.2.1 k k0 (by omega)) ?_
      have fb := hF.2.1 k k0 (by omega)
      have fx : 0 ≤ fi k ∧ fi k < 128 := ⟨fb.1, by omega⟩
      have db := (br_b (E := E) (P := P) (G := G) ht).1 (fi k) fx.1 fx.2
      refine ma_cV [_, _] dX12_edges_55 wX12_degreeOf lX12_279 iX12_degreeOf sX12_degreeOf rfl (by first | exact rh_73 | exact ((rh_n (by decide)).trans h74) | exact rh_86 | exact rh_87 | exact rh_88) (Nat.le_of_ble_eq_true rfl) ?_
      refine c_X12_degreeOf rh_73 ((rh_n (by decide)).trans h74) hG hA rh_86 rh_87 hB (by unfold rg; omega) ?_
      generalize ex : dA E (16 * t) (fi k) = x at db ⊢
      refine ma_istoreN dX12_edges_58 (by decide) rfl ?_
      refine ma_iload dX12_edges_60 rfl ?_
      refine ma_iload_n dX12_edges_62 rfl ?_
      refine ma_rcmp_ge 68 dX12_edges_63 rfl (by constructor <;> omega) (by constructor <;> omega) (fun c63 => ?_) (fun c63 => ?_)
      · -- 68
        refine ma_iload dX12_edges_68 rfl ?_
        refine ma_iload_n dX12_edges_70 rfl ?_
        refine ma_rcmp_le 77 dX12_edges_71 rfl (by constructor <;> omega) (by constructor <;> omega) (fun c71 => ?_) (fun c71 => ?_)
        · -- 77
          refine ma_iload_n dX12_edges_77 rfl ?_
          refine ma_iload dX12_edges_78 rfl ?_
          refine ma_cS [_, _] dX12_edges_80 wJ9_min_7cf53 lX12_248 tJ9_min_7cf53 (Nat.le_of_ble_eq_true rfl) ?_
          refine c_J9_min_7cf53 (by omega) (by omega) ?_
          first | rw [if_pos (by assumption)] | rw [if_neg (by omega)]
          refine ma_istore_nN dX12_edges_83 (by decide) rfl ?_
          refine ma_iload_n dX12_edges_84 rfl ?_
          refine ma_iload dX12_edges_85 rfl ?_
          refine ma_cS [_, _] dX12_edges_87 wJ9_max_7cf53 lX12_243 tJ9_max_7cf53 (Nat.le_of_ble_eq_true rfl) ?_
          refine c_J9_max_7cf53 (by omega) (by omega) ?_
          first | rw [if_pos (by assumption)] | rw [if_neg (by omega)]
          refine ma_istore_nN dX12_edges_90 (by decide) rfl ?_
          refine ma_iload_n dX12_edges_91 rfl ?_
          refine ma_iload dX12_edges_92 rfl ?_
          refine ma_iload_n dX12_edges_94 rfl ?_
          refine ma_rcmp_ne 102 dX12_edges_95 rfl (by constructor <;> omega) (by constructor <;> omega) (fun c95 => ?_) (fun c95 => ?_)
          · -- 102
            refine ma_iconst dX12_edges_102 ?_
            refine ma_iadd dX12_edges_103 ?_
            refine ma_istore_nN dX12_edges_104 (by decide) rfl ?_
            refine ma_iload dX12_edges_105 rfl ?_
            refine ma_iload dX12_edges_107 rfl ?_
            refine ma_iload_n dX12_edges_109 rfl ?_
            refine ma_rcmp_ne 117 dX12_edges_110 rfl (by constructor <;> omega) (by constructor <;> omega) (fun c110 => ?_) (fun c110 => ?_)
            · -- 117
              refine ma_iconst dX12_edges_117 ?_
              refine ma_iadd dX12_edges_118 ?_
              refine ma_istoreN dX12_edges_119 (by decide) rfl ?_
              refine ma_iincN dX12_edges_121 rfl (by decide) rfl ?_
              refine ma_goto 35 dX12_edges_124 rfl ?_
              first | (exfalso; omega) | exact ih (k + 1) _ _ _ _ _ (by omega) (by omega) (by omega) (by first | exact el_lt k0 hl ex (by omega) | exact el_eq k0 hl ex (by omega) | exact el_gt k0 hl ex (by omega)) (by first | exact em_gt k0 hg ex (by omega) | exact em_eq k0 hg ex (by omega) | exact em_lt k0 hg ex (by omega))
            · -- 113
              refine ma_iconst dX12_edges_113 ?_
              refine ma_goto 118 dX12_edges_114 rfl ?_
              refine ma_iadd dX12_edges_118 ?_
              refine ma_istoreN dX12_edges_119 (by decide) rfl ?_
              refine ma_iincN dX12_edges_121 rfl (by decide) rfl ?_
              refine ma_goto 35 dX12_edges_124 rfl ?_
              first | (exfalso; omega) | exact ih (k + 1) _ _ _ _ _ (by omega) (by omega) (by omega) (by first | exact el_lt k0 hl ex (by omega) | exact el_eq k0 hl ex (by omega) | exact el_gt k0 hl ex (by omega)) (by first | exact em_gt k0 hg ex (by omega) | exact em_eq k0 hg ex (by omega) | exact em_lt k0 hg ex (by omega))
          · -- 98
            refine ma_iconst dX12_edges_98 ?_
            refine ma_goto 103 dX12_edges_99 rfl ?_
            refine ma_iadd dX12_edges_103 ?_
            refine ma_istore_nN dX12_edges_104 (by decide) rfl ?_
            refine ma_iload dX12_edges_105 rfl ?_
            refine ma_iload dX12_edges_107 rfl ?_
            refine ma_iload_n dX12_edges_109 rfl ?_
            refine ma_rcmp_ne 117 dX12_edges_110 rfl (by constructor <;> omega) (by constructor <;> omega) (fun c110 => ?_) (fun c110 => ?_)
            · -- 117
              refine ma_iconst dX12_edges_117 ?_
              refine ma_iadd dX12_edges_118 ?_
              refine ma_istoreN dX12_edges_119 (by decide) rfl ?_
              refine ma_iincN dX12_edges_121 rfl (by decide) rfl ?_
              refine ma_goto 35 dX12_edges_124 rfl ?_
              first | (exfalso; omega) | exact ih (k + 1) _ _ _ _ _ (by omega) (by omega) (by omega) (by first | exact el_lt k0 hl ex (by omega) | exact el_eq k0 hl ex (by omega) | exact el_gt k0 hl ex (by omega)) (by first | exact em_gt k0 hg ex (by omega) | exact em_eq k0 hg ex (by omega) | exact em_lt k0 hg ex (by omega))
            · -- 113
              refine ma_iconst dX12_edges_113 ?_
              refine ma_goto 118 dX12_edges_114 rfl ?_
              refine ma_iadd dX12_edges_118 ?_
              refine ma_istoreN dX12_edges_119 (by decide) rfl ?_
              refine ma_iincN dX12_edges_121 rfl (by decide) rfl ?_
              refine ma_goto 35 dX12_edges_124 rfl ?_
              first | (exfalso; omega) | exact ih (k + 1) _ _ _ _ _ (by omega) (by omega) (by omega) (by first | exact el_lt k0 hl ex (by omega) | exact el_eq k0 hl ex (by omega) | exact el_gt k0 hl ex (by omega)) (by first | exact em_gt k0 hg ex (by omega) | exact em_eq k0 hg ex (by omega) | exact em_lt k0 hg ex (by omega))
        · -- 74
          refine ma_iconst dX12_edges_74 ?_
          refine ma_istoreN dX12_edges_75 (by decide) rfl ?_
          refine ma_iload_n dX12_edges_77 rfl ?_
          refine ma_iload dX12_edges_78 rfl ?_
          refine ma_cS [_, _] dX12_edges_80 wJ9_min_7cf53 lX12_248 tJ9_min_7cf53 (Nat.le_of_ble_eq_true rfl) ?_
          refine c_J9_min_7cf53 (by omega) (by omega) ?_
          first | rw [if_pos (by assumption)] | rw [if_neg (by omega)]
          refine ma_istore_nN dX12_edges_83 (by decide) rfl ?_
          refine ma_iload_n dX12_edges_84 rfl ?_
          refine ma_iload dX12_edges_85 rfl ?_
          refine ma_cS [_, _] dX12_edges_87 wJ9_max_7cf53 lX12_243 tJ9_max_7cf53 (Nat.le_of_ble_eq_true rfl) ?_
          refine c_J9_max_7cf53 (by omega) (by omega) ?_
          first | rw [if_pos (by assumption)] | rw [if_neg (by omega)]
          refine ma_istore_nN dX12_edges_90 (by decide) rfl ?_
          refine ma_iload_n dX12_edges_91 rfl ?_
          refine ma_iload dX12_edges_92 rfl ?_
          refine ma_iload_n dX12_edges_94 rfl ?_
          refine ma_rcmp_ne 102 dX12_edges_95 rfl (by constructor <;> omega) (by constructor <;> omega) (fun c95 => ?_) (fun c95 => ?_)
          · -- 102
            refine ma_iconst dX12_edges_102 ?_
            refine ma_iadd dX12_edges_103 ?_
            refine ma_istore_nN dX12_edges_104 (by decide) rfl ?_
            refine ma_iload dX12_edges_105 rfl ?_
            refine ma_iload dX12_edges_107 rfl ?_
            refine ma_iload_n dX12_edges_109 rfl ?_
            refine ma_rcmp_ne 117 dX12_edges_110 rfl (by constructor <;> omega) (by constructor <;> omega) (fun c110 => ?_) (fun c110 => ?_)
            · -- 117
              refine ma_iconst dX12_edges_117 ?_
              refine ma_iadd dX12_edges_118 ?_
              refine ma_istoreN dX12_edges_119 (by decide) rfl ?_
              refine ma_iincN dX12_edges_121 rfl (by decide) rfl ?_
              refine ma_goto 35 dX12_edges_124 rfl ?_
              first | (exfalso; omega) | exact ih (k + 1) _ _ _ _ _ (by omega) (by omega) (by omega) (by first | exact el_lt k0 hl ex (by omega) | exact el_eq k0 hl ex (by omega) | exact el_gt k0 hl ex (by omega)) (by first | exact em_gt k0 hg ex (by omega) | exact em_eq k0 hg ex (by omega) | exact em_lt k0 hg ex (by omega))
            · -- 113
              refine ma_iconst dX12_edges_113 ?_
              refine ma_goto 118 dX12_edges_114 rfl ?_
              refine ma_iadd dX12_edges_118 ?_
              refine ma_istoreN dX12_edges_119 (by decide) rfl ?_
              refine ma_iincN dX12_edges_121 rfl (by decide) rfl ?_
              refine ma_goto 35 dX12_edges_124 rfl ?_
              first | (exfalso; omega) | exact ih (k + 1) _ _ _ _ _ (by omega) (by omega) (by omega) (by first | exact el_lt k0 hl ex (by omega) | exact el_eq k0 hl ex (by omega) | exact el_gt k0 hl ex (by omega)) (by first | exact em_gt k0 hg ex (by omega) | exact em_eq k0 hg ex (by omega) | exact em_lt k0 hg ex (by omega))
          · -- 98
            refine ma_iconst dX12_edges_98 ?_
            refine ma_goto 103 dX12_edges_99 rfl ?_
            refine ma_iadd dX12_edges_103 ?_
            refine ma_istore_nN dX12_edges_104 (by decide) rfl ?_
            refine ma_iload dX12_edges_105 rfl ?_
            refine ma_iload dX12_edges_107 rfl ?_
            refine ma_iload_n dX12_edges_109 rfl ?_
            refine ma_rcmp_ne 117 dX12_edges_110 rfl (by constructor <;> omega) (by constructor <;> omega) (fun c110 => ?_) (fun c110 => ?_)
            · -- 117
              refine ma_iconst dX12_edges_117 ?_
              refine ma_iadd dX12_edges_118 ?_
              refine ma_istoreN dX12_edges_119 (by decide) rfl ?_
              refine ma_iincN dX12_edges_121 rfl (by decide) rfl ?_
              refine ma_goto 35 dX12_edges_124 rfl ?_
              first | (exfalso; omega) | exact ih (k + 1) _ _ _ _ _ (by omega) (by omega) (by omega) (by first | exact el_lt k0 hl ex (by omega) | exact el_eq k0 hl ex (by omega) | exact el_gt k0 hl ex (by omega)) (by first | exact em_gt k0 hg ex (by omega) | exact em_eq k0 hg ex (by omega) | exact em_lt k0 hg ex (by omega))
            · -- 113
              refine ma_iconst dX12_edges_113 ?_
              refine ma_goto 118 dX12_edges_114 rfl ?_
              refine ma_iadd dX12_edges_118 ?_
              refine ma_istoreN dX12_edges_119 (by decide) rfl ?_
              refine ma_iincN dX12_edges_121 rfl (by decide) rfl ?_
              refine ma_goto 35 dX12_edges_124 rfl ?_
              first | (exfalso; omega) | exact ih (k + 1) _ _ _ _ _ (by omega) (by omega) (by omega) (by first | exact el_lt k0 hl ex (by omega) | exact el_eq k0 hl ex (by omega) | exact el_gt k0 hl ex (by omega)) (by first | exact em_gt k0 hg ex (by omega) | exact em_eq k0 hg ex (by omega) | exact em_lt k0 hg ex (by omega))
      · -- 66
        refine ma_iconst dX12_edges_66 ?_
        refine ma_istore_nN dX12_edges_67 (by decide) rfl ?_
        refine ma_iload dX12_edges_68 rfl ?_
        refine ma_iload_n dX12_edges_70 rfl ?_
        refine ma_rcmp_le 77 dX12_edges_71 rfl (by constructor <;> omega) (by constructor <;> omega) (fun c71 => ?_) (fun c71 => ?_)
        · -- 77
          refine ma_iload_n dX12_edges_77 rfl ?_
          refine ma_iload dX12_edges_78 rfl ?_
          refine ma_cS [_, _] dX12_edges_80 wJ9_min_7cf53 lX12_248 tJ9_min_7cf53 (Nat.le_of_ble_eq_true rfl) ?_
          refine c_J9_min_7cf53 (by omega) (by omega) ?_
          first | rw [if_pos (by assumption)] | rw [if_neg (by omega)]
          refine ma_istore_nN dX12_edges_83 (by decide) rfl ?_
          refine ma_iload_n dX12_edges_84 rfl ?_
          refine ma_iload dX12_edges_85 rfl ?_
          refine ma_cS [_, _] dX12_edges_87 wJ9_max_7cf53 lX12_243 tJ9_max_7cf53 (Nat.le_of_ble_eq_true rfl) ?_
          refine c_J9_max_7cf53 (by omega) (by omega) ?_
          first | rw [if_pos (by assumption)] | rw [if_neg (by omega)]
          refine ma_istore_nN dX12_edges_90 (by decide) rfl ?_
          refine ma_iload_n dX12_edges_91 rfl ?_
          refine ma_iload dX12_edges_92 rfl ?_
          refine ma_iload_n dX12_edges_94 rfl ?_
          refine ma_rcmp_ne 102 dX12_edges_95 rfl (by constructor <;> omega) (by constructor <;> omega) (fun c95 => ?_) (fun c95 => ?_)
          · -- 102
            refine ma_iconst dX12_edges_102 ?_
            refine ma_iadd dX12_edges_103 ?_
            refine ma_istore_nN dX12_edges_104 (by decide) rfl ?_
            refine ma_iload dX12_edges_105 rfl ?_
            refine ma_iload dX12_edges_107 rfl ?_
            refine ma_iload_n dX12_edges_109 rfl ?_
            refine ma_rcmp_ne 117 dX12_edges_110 rfl (by constructor <;> omega) (by constructor <;> omega) (fun c110 => ?_) (fun c110 => ?_)
            · -- 117
              refine ma_iconst dX12_edges_117 ?_
              refine ma_iadd dX12_edges_118 ?_
              refine ma_istoreN dX12_edges_119 (by decide) rfl ?_
              refine ma_iincN dX12_edges_121 rfl (by decide) rfl ?_
              refine ma_goto 35 dX12_edges_124 rfl ?_
              first | (exfalso; omega) | exact ih (k + 1) _ _ _ _ _ (by omega) (by omega) (by omega) (by first | exact el_lt k0 hl ex (by omega) | exact el_eq k0 hl ex (by omega) | exact el_gt k0 hl ex (by omega)) (by first | exact em_gt k0 hg ex (by omega) | exact em_eq k0 hg ex (by omega) | exact em_lt k0 hg ex (by omega))
            · -- 113
              refine ma_iconst dX12_edges_113 ?_
              refine ma_goto 118 dX12_edges_114 rfl ?_
              refine ma_iadd dX12_edges_118 ?_
              refine ma_istoreN dX12_edges_119 (by decide) rfl ?_
              refine ma_iincN dX12_edges_121 rfl (by decide) rfl ?_
              refine ma_goto 35 dX12_edges_124 rfl ?_
              first | (exfalso; omega) | exact ih (k + 1) _ _ _ _ _ (by omega) (by omega) (by omega) (by first | exact el_lt k0 hl ex (by omega) | exact el_eq k0 hl ex (by omega) | exact el_gt k0 hl ex (by omega)) (by first | exact em_gt k0 hg ex (by omega) | exact em_eq k0 hg ex (by omega) | exact em_lt k0 hg ex (by omega))
          · -- 98
            refine ma_iconst dX12_edges_98 ?_
            refine ma_goto 103 dX12_edges_99 rfl ?_
            refine ma_iadd dX12_edges_103 ?_
            refine ma_istore_nN dX12_edges_104 (by decide) rfl ?_
            refine ma_iload dX12_edges_105 rfl ?_
            refine ma_iload dX12_edges_107 rfl ?_
            refine ma_iload_n dX12_edges_109 rfl ?_
            refine ma_rcmp_ne 117 dX12_edges_110 rfl (by constructor <;> omega) (by constructor <;> omega) (fun c110 => ?_) (fun c110 => ?_)
            · -- 117
              refine ma_iconst dX12_edges_117 ?_
              refine ma_iadd dX12_edges_118 ?_
              refine ma_istoreN dX12_edges_119 (by decide) rfl ?_
              refine ma_iincN dX12_edges_121 rfl (by decide) rfl ?_
              refine ma_goto 35 dX12_edges_124 rfl ?_
              first | (exfalso; omega) | exact ih (k + 1) _ _ _ _ _ (by omega) (by omega) (by omega) (by first | exact el_lt k0 hl ex (by omega) | exact el_eq k0 hl ex (by omega) | exact el_gt k0 hl ex (by omega)) (by first | exact em_gt k0 hg ex (by omega) | exact em_eq k0 hg ex (by omega) | exact em_lt k0 hg ex (by omega))
            · -- 113
              refine ma_iconst dX12_edges_113 ?_
              refine ma_goto 118 dX12_edges_114 rfl ?_
              refine ma_iadd dX12_edges_118 ?_
              refine ma_istoreN dX12_edges_119 (by decide) rfl ?_
              refine ma_iincN dX12_edges_121 rfl (by decide) rfl ?_
              refine ma_goto 35 dX12_edges_124 rfl ?_
              first | (exfalso; omega) | exact ih (k + 1) _ _ _ _ _ (by omega) (by omega) (by omega) (by first | exact el_lt k0 hl ex (by omega) | exact el_eq k0 hl ex (by omega) | exact el_gt k0 hl ex (by omega)) (by first | exact em_gt k0 hg ex (by omega) | exact em_eq k0 hg ex (by omega) | exact em_lt k0 hg ex (by omega))
        · -- 74
          refine ma_iconst dX12_edges_74 ?_
          refine ma_istoreN dX12_edges_75 (by decide) rfl ?_
          refine ma_iload_n dX12_edges_77 rfl ?_
          refine ma_iload dX12_edges_78 rfl ?_
          refine ma_cS [_, _] dX12_edges_80 wJ9_min_7cf53 lX12_248 tJ9_min_7cf53 (Nat.le_of_ble_eq_true rfl) ?_
          refine c_J9_min_7cf53 (by omega) (by omega) ?_
          first | rw [if_pos (by assumption)] | rw [if_neg (by omega)]
          refine ma_istore_nN dX12_edges_83 (by decide) rfl ?_
          refine ma_iload_n dX12_edges_84 rfl ?_
          refine ma_iload dX12_edges_85 rfl ?_
          refine ma_cS [_, _] dX12_edges_87 wJ9_max_7cf53 lX12_243 tJ9_max_7cf53 (Nat.le_of_ble_eq_true rfl) ?_
          refine c_J9_max_7cf53 (by omega) (by omega) ?_
          first | rw [if_pos (by assumption)] | rw [if_neg (by omega)]
          refine ma_istore_nN dX12_edges_90 (by decide) rfl ?_
          refine ma_iload_n dX12_edges_91 rfl ?_
          refine ma_iload dX12_edges_92 rfl ?_
          refine ma_iload_n dX12_edges_94 rfl ?_
          refine ma_rcmp_ne 102 dX12_edges_95 rfl (by constructor <;> omega) (by constructor <;> omega) (fun c95 => ?_) (fun c95 => ?_)
          · -- 102
            refine ma_iconst dX12_edges_102 ?_
            refine ma_iadd dX12_edges_103 ?_
            refine ma_istore_nN dX12_edges_104 (by decide) rfl ?_
            refine ma_iload dX12_edges_105 rfl ?_
            refine ma_iload dX12_edges_107 rfl ?_
            refine ma_iload_n dX12_edges_109 rfl ?_
            refine ma_rcmp_ne 117 dX12_edges_110 rfl (by constructor <;> omega) (by constructor <;> omega) (fun c110 => ?_) (fun c110 => ?_)
            · -- 117
              refine ma_iconst dX12_edges_117 ?_
              refine ma_iadd dX12_edges_118 ?_
              refine ma_istoreN dX12_edges_119 (by decide) rfl ?_
              refine ma_iincN dX12_edges_121 rfl (by decide) rfl ?_
              refine ma_goto 35 dX12_edges_124 rfl ?_
              first | (exfalso; omega) | exact ih (k + 1) _ _ _ _ _ (by omega) (by omega) (by omega) (by first | exact el_lt k0 hl ex (by omega) | exact el_eq k0 hl ex (by omega) | exact el_gt k0 hl ex (by omega)) (by first | exact em_gt k0 hg ex (by omega) | exact em_eq k0 hg ex (by omega) | exact em_lt k0 hg ex (by omega))
            · -- 113
              refine ma_iconst dX12_edges_113 ?_
              refine ma_goto 118 dX12_edges_114 rfl ?_
              refine ma_iadd dX12_edges_118 ?_
              refine ma_istoreN dX12_edges_119 (by decide) rfl ?_
              refine ma_iincN dX12_edges_121 rfl (by decide) rfl ?_
              refine ma_goto 35 dX12_edges_124 rfl ?_
              first | (exfalso; omega) | exact ih (k + 1) _ _ _ _ _ (by omega) (by omega) (by omega) (by first | exact el_lt k0 hl ex (by omega) | exact el_eq k0 hl ex (by omega) | exact el_gt k0 hl ex (by omega)) (by first | exact em_gt k0 hg ex (by omega) | exact em_eq k0 hg ex (by omega) | exact em_lt k0 hg ex (by omega))
          · -- 98
            refine ma_iconst dX12_edges_98 ?_
            refine ma_goto 103 dX12_edges_99 rfl ?_
            refine ma_iadd dX12_edges_103 ?_
            refine ma_istore_nN dX12_edges_104 (by decide) rfl ?_
            refine ma_iload dX12_edges_105 rfl ?_
            refine ma_iload dX12_edges_107 rfl ?_
            refine ma_iload_n dX12_edges_109 rfl ?_
            refine ma_rcmp_ne 117 dX12_edges_110 rfl (by constructor <;> omega) (by constructor <;> omega) (fun c110 => ?_) (fun c110 => ?_)
            · -- 117
              refine ma_iconst dX12_edges_117 ?_
              refine ma_iadd dX12_edges_118 ?_
              refine ma_istoreN dX12_edges_119 (by decide) rfl ?_
              refine ma_iincN dX12_edges_121 rfl (by decide) rfl ?_
              refine ma_goto 35 dX12_edges_124 rfl ?_
              first | (exfalso; omega) | exact ih (k + 1) _ _ _ _ _ (by omega) (by omega) (by omega) (by first | exact el_lt k0 hl ex (by omega) | exact el_eq k0 hl ex (by omega) | exact el_gt k0 hl ex (by omega)) (by first | exact em_gt k0 hg ex (by omega) | exact em_eq k0 hg ex (by omega) | exact em_lt k0 hg ex (by omega))
            · -- 113
              refine ma_iconst dX12_edges_113 ?_
              refine ma_goto 118 dX12_edges_114 rfl ?_
              refine ma_iadd dX12_edges_118 ?_
              refine ma_istoreN dX12_edges_119 (by decide) rfl ?_
              refine ma_iincN dX12_edges_121 rfl (by decide) rfl ?_
              refine ma_goto 35 dX12_edges_124 rfl ?_
              first | (exfalso; omega) | exact ih (k + 1) _ _ _ _ _ (by omega) (by omega) (by omega) (by first | exact el_lt k0 hl ex (by omega) | exact el_eq k0 hl ex (by omega) | exact el_gt k0 hl ex (by omega)) (by first | exact em_gt k0 hg ex (by omega) | exact em_eq k0 hg ex (by omega) | exact em_lt k0 hg ex (by omega))
set_option maxHeartbeats 2000000 in
theorem c_X12_edges {h : ma_H} {nx d : Nat} {I : Nat → Int} {t : Int} {G Aa f F0 R0 fi0 : Int → Int} {Q : Option ma_V → ma_H → Nat → Prop} (h74 : h 74 = ci 33 Aa) (hG : VG t G) (hA : AG t G Aa) (K : ∀ E P F R fi I' n l m a b, BQ t G E P F R → n ≤ 48 → FE E fi n (16 * t) → EL (fun j => dA E (16 * t) (fi j)) n l a → EG (fun j => dA E (16 * t) (fi j)) n m b → IR I I' 5 → Q (some (vi n)) (rh h I' (uf (uf (uf (uf (uf f 0 l) 1 a) 2 m) 3 b) 4 (ct (fun x => cP E x ∧ E x = E (tr x)) (16 * t).toNat)) F R fi) nx) : ma_Ct mX12_edges (d + 7) 0 0 [vr 73] (rh h I f F0 R0 fi0) nx Q := by
  have ht := hG.1
  refine ma_Ct.of (by decide +kernel) (Nat.le_of_ble_eq_true rfl) ?_
  refine ma_aload_n dX12_edges_0 rfl ?_
  refine ma_iconst dX12_edges_1 ?_
  refine ma_puti dX12_edges_2 fX12_128 (by first | exact rh_73 | exact ((rh_n (by decide)).trans h74) | exact rh_86 | exact rh_87 | exact rh_88) (Nat.le_of_ble_eq_true rfl) ?_
  rw [mo_5, rh_p]
  refine ma_aload_n dX12_edges_5 rfl ?_
  refine ma_aload_n dX12_edges_6 rfl ?_
  refine ma_getf dX12_edges_7 fX12_9 (by first | exact rh_73 | exact ((rh_n (by decide)).trans h74) | exact rh_86 | exact rh_87 | exact rh_88) (by rfl) ?_
  refine ma_cV [_] dX12_edges_10 wX12_layJoined lX12_269 iX12_layJoined sX12_layJoined rfl (by first | exact rh_73 | exact ((rh_n (by decide)).trans h74) | exact rh_86 | exact rh_87 | exact rh_88) (Nat.le_of_ble_eq_true rfl) ?_
  refine r_lj h74 hG hA (fun E P F R hB => ?_)
  have b4 := ct_in (qP P) (4 * t).toNat
  have b5 := ct_in (cP E) (16 * t).toNat
  have bc := br_b (E := E) (P := P) (G := G) ht
  refine ma_aload_n dX12_edges_13 rfl ?_
  refine ma_aload_n dX12_edges_14 rfl ?_
  refine ma_getf dX12_edges_15 fX12_9 (by first | exact rh_73 | exact ((rh_n (by decide)).trans h74) | exact rh_86 | exact rh_87 | exact rh_88) (by rfl) ?_
  refine ma_cV [_] dX12_edges_18 wX12_layEdges lX12_309 iX12_layEdges sX12_layEdges rfl (by first | exact rh_73 | exact ((rh_n (by decide)).trans h74) | exact rh_86 | exact rh_87 | exact rh_88) (Nat.le_of_ble_eq_true rfl) ?_
  refine r_le h74 hG hA hB (fun fi n n0 hF => ?_)
  have n1 := hF.1
  refine ma_ldcw (n := 1000000) dX12_edges_21 vX12_312 (by decide +kernel) ?_
  refine ma_istore_nN dX12_edges_24 (by decide) rfl ?_
  refine ma_iconst dX12_edges_25 ?_
  refine ma_istore_nN dX12_edges_26 (by decide) rfl ?_
  refine ma_iconst dX12_edges_27 ?_
  refine ma_istore_nN dX12_edges_28 (by decide) rfl ?_
  refine ma_iconst dX12_edges_29 ?_
  refine ma_istoreN dX12_edges_30 (by decide) rfl ?_
  refine ma_iconst dX12_edges_32 ?_
  refine ma_istoreN dX12_edges_33 (by decide) rfl ?_
  refine l_ed35 h74 hG hA hB n0 hF rfl (fun l m a b x6 hl hg => ?_) 50 0 1000000 0 0 0 _ (by omega) (by omega) (by omega) el_0 em_0
  have lb := el_b (fun j j0 j1 => by have fb := hF.2.1 j j0 (by omega); exact ((br_b (E := E) (P := P) (G := G) ht).1 (fi j) fb.1 (by omega)).1) (by omega) (by omega) hl
  have gb := em_b (fun j j0 j1 => by have fb := hF.2.1 j j0 (by omega); exact ((br_b (E := E) (P := P) (G := G) ht).1 (fi j) fb.1 (by omega)).2) (by omega) (by omega) hg
  refine ma_aload_n dX12_edges_127 rfl ?_
  refine ma_iconst dX12_edges_128 ?_
  refine ma_puti dX12_edges_129 fX12_132 (by first | exact rh_73 | exact ((rh_n (by decide)).trans h74) | exact rh_86 | exact rh_87 | exact rh_88) (Nat.le_of_ble_eq_true rfl) ?_
  rw [mo_4, rh_p]
  refine ma_aload_n dX12_edges_132 rfl ?_
  refine ma_iload_n dX12_edges_133 rfl ?_
  refine ma_i2l dX12_edges_134 ?_
  refine ma_cV [_] dX12_edges_135 wX12_tell lX12_231 iX12_tell sX12_tell rfl (by first | exact rh_73 | exact ((rh_n (by decide)).trans h74) | exact rh_86 | exact rh_87 | exact rh_88) (Nat.le_of_ble_eq_true rfl) ?_
  refine r_tell 0 rfl (by decide) (iw_of (by omega) (by omega)) ?_
  refine ma_aload_n dX12_edges_138 rfl ?_
  refine ma_iload_n dX12_edges_139 rfl ?_
  refine ma_i2l dX12_edges_140 ?_
  refine ma_cV [_] dX12_edges_141 wX12_tell lX12_231 iX12_tell sX12_tell rfl (by first | exact rh_73 | exact ((rh_n (by decide)).trans h74) | exact rh_86 | exact rh_87 | exact rh_88) (Nat.le_of_ble_eq_true rfl) ?_
  refine r_tell 1 rfl (by decide) (iw_of (by omega) (by omega)) ?_
  refine ma_aload_n dX12_edges_144 rfl ?_
  refine ma_iload_n dX12_edges_145 rfl ?_
  refine ma_i2l dX12_edges_146 ?_
  refine ma_cV [_] dX12_edges_147 wX12_tell lX12_231 iX12_tell sX12_tell rfl (by first | exact rh_73 | exact ((rh_n (by decide)).trans h74) | exact rh_86 | exact rh_87 | exact rh_88) (Nat.le_of_ble_eq_true rfl) ?_
  refine r_tell 2 rfl (by decide) (iw_of (by omega) (by omega)) ?_
  refine ma_aload_n dX12_edges_150 rfl ?_
  refine ma_iload dX12_edges_151 rfl ?_
  refine ma_i2l dX12_edges_153 ?_
  refine ma_cV [_] dX12_edges_154 wX12_tell lX12_231 iX12_tell sX12_tell rfl (by first | exact rh_73 | exact ((rh_n (by decide)).trans h74) | exact rh_86 | exact rh_87 | exact rh_88) (Nat.le_of_ble_eq_true rfl) ?_
  refine r_tell 3 rfl (by decide) (iw_of (by omega) (by omega)) ?_
  refine ma_aload_n dX12_edges_157 rfl ?_
  refine ma_aload_n dX12_edges_158 rfl ?_
  refine ma_cV [] dX12_edges_159 wX12_reversedMany lX12_313 iX12_reversedMany sX12_reversedMany rfl (by first | exact rh_73 | exact ((rh_n (by decide)).trans h74) | exact rh_86 | exact rh_87 | exact rh_88) (Nat.le_of_ble_eq_true rfl) ?_
  refine c_X12_reversedMany rh_73 rh_86 rh_88 hG hB rfl n0 hF ?_
  have b2 := ct_in (fun x => cP E x ∧ E x = E (tr x)) (16 * t).toNat
  refine ma_i2l dX12_edges_162 ?_
  refine ma_cV [_] dX12_edges_163 wX12_tell lX12_231 iX12_tell sX12_tell rfl (by first | exact rh_73 | exact ((rh_n (by decide)).trans h74) | exact rh_86 | exact rh_87 | exact rh_88) (Nat.le_of_ble_eq_true rfl) ?_
  refine r_tell 4 rfl (by decide) (iw_of (by omega) (by omega)) ?_
  refine ma_aload_n dX12_edges_166 rfl ?_
  refine ma_getf dX12_edges_167 fX12_300 (by first | exact rh_73 | exact ((rh_n (by decide)).trans h74) | exact rh_86 | exact rh_87 | exact rh_88) (by rfl) ?_
  exact ma_iret dX12_edges_170 rfl (K E P F R fi _ n l m a b hB n0 hF hl hg ⟨rfl, rfl, fun k a b c => by simp only [iu, if_neg a, if_neg b, if_neg c]⟩)
