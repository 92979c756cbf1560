/-! THE FRESH SOLID: one tet, all faces free. -/
abbrev GM : Int → Int := fun _ => -1
theorem gm_n (j : Int) : GM j < 0 := by
  show (-1 : Int) < 0
  decide
theorem gm_vg : VG 1 GM := ⟨by decide, fun k a b => Or.inl rfl, fun k a b => rfl⟩
theorem gm_cn : CN 1 GM := by
  rintro S ⟨i, a, b, s⟩ _ j c d
  have e : j = i := by omega
  rw [e]; exact s
theorem gm_E {E P : Int → Int} (hB : BP 1 GM E P) {x : Int} (hx : oE 1 x) : E x = x :=
  (hB.1.1 x hx).2.2 (fun y => y) (fun y f _ _ _ hn => by
    exfalso
    unfold nE at hn
    rw [if_pos (Or.inr (Or.inr (gm_n _)))] at hn
    omega)
theorem gm_P {E P : Int → Int} (hB : BP 1 GM E P) {x : Int} (hx : oC 1 x) : P x = x :=
  (hB.2.2.1.1 x hx).2.2 (fun y => y) (fun y f _ _ _ hn => by
    exfalso
    unfold nC at hn
    rw [if_pos (Or.inr (gm_n _))] at hn
    omega)
theorem gm_g {u v : Int} (u0 : 0 ≤ u) (uv : u < v) (v1 : v < 4) : ∃ g, 0 ≤ g ∧ g < 4 ∧ g ≠ u ∧ g ≠ v := by
  by_cases a : u = 0
  · by_cases b : v = 1
    · exact ⟨2, by omega, by omega, by omega, by omega⟩
    · exact ⟨1, by omega, by omega, by omega, by omega⟩
  · exact ⟨0, by omega, by omega, by omega, by omega⟩
theorem gm_free {E P : Int → Int} {k : Int} (k0 : 0 ≤ k) (k1 : k < 16) (ku : k / 4 % 4 < k % 4) : fP E GM (16 * 1) 0 (eg E k) := by
  obtain ⟨g, g0, g1, g2, g3⟩ := gm_g (u := k / 4 % 4) (v := k % 4) (by omega) ku (by omega)
  exact ⟨k, g, k0, g0, g1, Or.inl (by omega), ku, rfl, g2, g3, gm_n _⟩
theorem gm_c3 {E P : Int → Int} {k : Int} (k0 : 0 ≤ k) (k1 : k < 16) (ku : k / 4 % 4 < k % 4) : ¬ C3 1 GM E k := by
  rintro ⟨-, f, -, -⟩
  unfold fA at f
  rw [if_pos (gm_free (P := P) k0 k1 ku)] at f
  omega
theorem gm_side {E P : Int → Int} (hB : BP 1 GM E P) {k : Int} (k0 : 0 ≤ k) (k1 : k < 4) : 0 < sA P GM (16 * 1) (P k) := by
  unfold sA
  refine ct_pos.mpr ⟨4 * k + (if k = 0 then 1 else 0), ?_, ?_, ?_, ?_, gm_n _⟩
  · split <;> omega
  · split <;> omega
  · rw [show (4 * k + (if k = 0 then 1 else 0)) / 4 = k by split <;> omega]
  · split <;> omega
theorem gm_c4 {E P : Int → Int} (hB : BP 1 GM E P) {k : Int} (k0 : 0 ≤ k) (k1 : k < 4) : ¬ C4 1 GM E P k := by
  rintro ⟨-, ⟨f, -⟩, -⟩
  have := gm_side hB k0 k1
  omega
/-- one move can be: the 1-4 at the tet -/
theorem gm_rf {E P : Int → Int} (hB : BP 1 GM E P) {k : Int} (k0 : 0 ≤ k) (k1 : k < 200) : RF 1 GM E P k = 0 ↔ k = 160 := by
  unfold RF
  by_cases a : k < 32
  · rw [if_pos a]
    unfold R2
    split
    · omega
    · rw [if_pos (Or.inl (gm_n _))]
      omega
  rw [if_neg a]
  by_cases b : k < 160
  · rw [if_pos b]
    by_cases c : ¬ ((k - 32) / 16 < 1 ∧ (k - 32) / 4 % 4 < (k - 32) % 4)
    · rw [if_pos c]
      omega
    · rw [if_neg c, if_neg (gm_c3 (P := P) (by omega) (by omega) (by omega))]
      omega
  rw [if_neg b]
  by_cases c : k < 168
  · rw [if_pos c]
    unfold R1
    split
    · omega
    · rw [if_neg (by omega)]
      omega
  rw [if_neg c]
  by_cases e : ¬ (k - 168) / 4 < 1
  · rw [if_pos e]
    omega
  · rw [if_neg e, if_neg (gm_c4 hB (by omega) (by omega))]
    omega
theorem gm_fn {E P : Int → Int} (hB : BP 1 GM E P) : FN 1 GM E P := ⟨fun j a b z => by have := (gm_rf hB (by omega) b).mp z; omega, fun j a b z => by have := (gm_rf hB (by omega) (by omega)).mp z; omega⟩
theorem gm_sim {t' e' : Int} {G' : Int → Int} (h : SIM 8 1 GM 0 t' G' e') : t' = 1 ∧ e' = 0 := by
  rcases h with ⟨E, P, hB, hF, z1, z2, z3⟩ | ⟨E, P, k, t1, G1, hB, hF, st, h⟩
  · exact ⟨z1, z3⟩
  · have a := fs_k hF
    have b := (gm_rf hB a.1.1 a.1.2).mp hF.1
    omega
theorem c_X11_leads0 {h : ma_H} {nx d : Nat} {x q0 : Int} {b : Int → Int} {Q : Option ma_V → ma_H → Nat → Prop} (hx : h 0 = co 11 (xo q0)) (h12 : h 12 = cz 2 b) (hb : ∀ j, 0 ≤ j → j < 2 → b j = 0) (rx : rg x) (K0 : ¬ (0 ≤ x ∧ x < 2) → Q (some (vi (-1))) h nx) (K1 : 0 ≤ x ∧ x < 2 → Q (some (vi (-2))) h nx) : ma_Ct mX11_leads d 0 0 [vr 0, vi x] h nx Q := by
  unfold rg at rx
  refine ma_Ct.of (by decide +kernel) (Nat.le_of_ble_eq_true rfl) ?_
  refine ma_iload_n dX11_leads_0 rfl ?_
  refine ma_rif_lt 9 dX11_leads_1 rfl (by constructor <;> omega) (fun c1 => ?_) (fun c1 => ?_)
  · -- 9
    refine ma_iconst dX11_leads_9 ?_
    exact ma_iret dX11_leads_10 rfl (K0 (by omega))
  · -- 4
    refine ma_iload_n dX11_leads_4 rfl ?_
    refine ma_iconst dX11_leads_5 ?_
    refine ma_rcmp_lt 11 dX11_leads_6 rfl (by constructor <;> omega) (by constructor <;> omega) (fun c6 => ?_) (fun c6 => ?_)
    · -- 11
      refine ma_aload_n dX11_leads_11 rfl ?_
      refine ma_getf dX11_leads_12 fX11_26 (by first | assumption | exact ma_up_s _ _ _ | exact (ma_up_n (by decide)).trans (by assumption)) (by rfl) ?_
      refine ma_iload_n dX11_leads_15 rfl ?_
      refine ma_zald dX11_leads_16 (by first | assumption | exact ma_up_s _ _ _ | exact (ma_up_n (by decide)).trans (by assumption)) (by omega) (by omega) (by omega) ?_
      rw [hb x (by omega) (by omega)]
      refine ma_rif_eq 40 dX11_leads_17 rfl (by decide) (fun c17 => ?_) (fun c17 => absurd rfl c17)
      refine ma_iconst dX11_leads_40 ?_
      refine ma_istore_nN dX11_leads_41 (by decide) rfl ?_
      refine ma_iload_n dX11_leads_42 rfl ?_
      refine ma_rif_ge 49 dX11_leads_43 rfl (by decide) (fun c43 => absurd c43 (by decide)) (fun c43 => ?_)
      refine ma_bipush dX11_leads_46 ?_
      exact ma_iret dX11_leads_48 rfl (K1 (by omega))
    · -- 9
      refine ma_iconst dX11_leads_9 ?_
      exact ma_iret dX11_leads_10 rfl (K0 (by omega))
theorem c_X11_way0 {h : ma_H} {nx d : Nat} {x n m q0 : Int} {b : Int → Int} {Q : Option ma_V → ma_H → Nat → Prop} (hx : h 0 = co 11 (xo q0)) (h12 : h 12 = cz 2 b) (hb : ∀ j, 0 ≤ j → j < 2 → b j = 0) (rx : rg x) (rn : rg n) (rm : rg m) (K0 : ¬ (0 ≤ x ∧ x < 2 ∧ 1 ≤ n ∧ n ≤ 30 ∧ 1 ≤ m ∧ m ≤ 8) → Q (some (vi (-1))) h nx) (K1 : (0 ≤ x ∧ x < 2 ∧ 1 ≤ n ∧ n ≤ 30 ∧ 1 ≤ m ∧ m ≤ 8) → Q (some (vi (-3))) h nx) : ma_Ct mX11_way d 0 0 [vr 0, vi x, vi n, vi m] h nx Q := by
  unfold rg at rx rn rm
  refine ma_Ct.of (by decide +kernel) (Nat.le_of_ble_eq_true rfl) ?_
  refine ma_iload_n dX11_way_0 rfl ?_
  refine ma_rif_lt 31 dX11_way_1 rfl (by constructor <;> omega) (fun c1 => ?_) (fun c1 => ?_)
  · -- 31
    refine ma_iconst dX11_way_31 ?_
    exact ma_iret dX11_way_32 rfl (K0 (by omega))
  · -- 4
    refine ma_iload_n dX11_way_4 rfl ?_
    refine ma_iconst dX11_way_5 ?_
    refine ma_rcmp_ge 31 dX11_way_6 rfl (by constructor <;> omega) (by constructor <;> omega) (fun c6 => ?_) (fun c6 => ?_)
    · -- 31
      refine ma_iconst dX11_way_31 ?_
      exact ma_iret dX11_way_32 rfl (K0 (by omega))
    · -- 9
      refine ma_iload_n dX11_way_9 rfl ?_
      refine ma_iconst dX11_way_10 ?_
      refine ma_rcmp_lt 31 dX11_way_11 rfl (by constructor <;> omega) (by constructor <;> omega) (fun c11 => ?_) (fun c11 => ?_)
      · -- 31
        refine ma_iconst dX11_way_31 ?_
        exact ma_iret dX11_way_32 rfl (K0 (by omega))
      · -- 14
        refine ma_iload_n dX11_way_14 rfl ?_
        refine ma_bipush dX11_way_15 ?_
        refine ma_rcmp_gt 31 dX11_way_17 rfl (by constructor <;> omega) (by constructor <;> omega) (fun c17 => ?_) (fun c17 => ?_)
        · -- 31
          refine ma_iconst dX11_way_31 ?_
          exact ma_iret dX11_way_32 rfl (K0 (by omega))
        · -- 20
          refine ma_iload_n dX11_way_20 rfl ?_
          refine ma_iconst dX11_way_21 ?_
          refine ma_rcmp_lt 31 dX11_way_22 rfl (by constructor <;> omega) (by constructor <;> omega) (fun c22 => ?_) (fun c22 => ?_)
          · -- 31
            refine ma_iconst dX11_way_31 ?_
            exact ma_iret dX11_way_32 rfl (K0 (by omega))
          · -- 25
            refine ma_iload_n dX11_way_25 rfl ?_
            refine ma_bipush dX11_way_26 ?_
            refine ma_rcmp_le 33 dX11_way_28 rfl (by constructor <;> omega) (by constructor <;> omega) (fun c28 => ?_) (fun c28 => ?_)
            · -- 33
              refine ma_aload_n dX11_way_33 rfl ?_
              refine ma_getf dX11_way_34 fX11_26 (by first | assumption | exact ma_up_s _ _ _ | exact (ma_up_n (by decide)).trans (by assumption)) (by rfl) ?_
              refine ma_iload_n dX11_way_37 rfl ?_
              refine ma_zald dX11_way_38 (by first | assumption | exact ma_up_s _ _ _ | exact (ma_up_n (by decide)).trans (by assumption)) (by omega) (by omega) (by omega) ?_
              rw [hb x (by omega) (by omega)]
              refine ma_rif_ne 45 dX11_way_39 rfl (by decide) (fun c39 => absurd rfl c39) (fun c39 => ?_)
              refine ma_bipush dX11_way_42 ?_
              exact ma_iret dX11_way_44 rfl (K1 (by omega))
            · -- 31
              refine ma_iconst dX11_way_31 ?_
              exact ma_iret dX11_way_32 rfl (K0 (by omega))
theorem c_X12_leads0 {h : ma_H} {nx d : Nat} {x : Int} {b : Int → Int} {I : Nat → Int} {Q : Option ma_V → ma_H → Nat → Prop} (hM : h 73 = co 12 (mo I)) (h106 : h 106 = cz 2 b) (hb : ∀ j, 0 ≤ j → j < 2 → b j = 0) (rx : rg x) (K0 : ¬ (0 ≤ x ∧ x < 2) → Q (some (vi (-1))) (ma_up h 73 (co 12 (mo (iu I 5 0)))) nx) (K1 : 0 ≤ x ∧ x < 2 → Q (some (vi (-2))) (ma_up h 73 (co 12 (mo (iu I 5 0)))) nx) : ma_Ct mX12_leads (d + 1) 0 0 [vr 73, vi x] h nx Q := by
  refine ma_Ct.of (by decide +kernel) (Nat.le_of_ble_eq_true rfl) ?_
  refine ma_aload_n dX12_leads_0 rfl ?_
  refine ma_iconst dX12_leads_1 ?_
  refine ma_puti dX12_leads_2 fX12_128 (by first | assumption | exact ma_up_s _ _ _ | exact (ma_up_n (by decide)).trans (by assumption)) (Nat.le_of_ble_eq_true rfl) ?_
  rw [mo_5]
  refine ma_iload_n dX12_leads_5 rfl ?_
  refine ma_iconst dX12_leads_6 ?_
  refine ma_iconst dX12_leads_7 ?_
  refine ma_cS [_, _, _] dX12_leads_8 wX12_in lX12_179 tX12_in (Nat.le_of_ble_eq_true rfl) ?_
  refine c_X12_in rx (by unfold rg; decide) (by unfold rg; decide) (fun z0 z1 => ?_) (fun z => ?_)
  · -- k1
    refine ma_rif_ne 16 dX12_leads_11 rfl (by decide) (fun c11 => ?_) (fun c11 => absurd c11 (by decide))
    refine ma_iconst dX12_leads_16 ?_
    refine ma_istore_nN dX12_leads_17 (by decide) rfl ?_
    refine ma_iload_n dX12_leads_18 rfl ?_
    refine ma_bipush dX12_leads_19 ?_
    refine ma_rcmp_ge 119 dX12_leads_21 rfl (by decide) (by decide) (fun c21 => absurd c21 (by decide)) (fun c21 => ?_)
    refine ma_aload_n dX12_leads_24 rfl ?_
    refine ma_getf dX12_leads_25 fX12_108 (by first | assumption | exact ma_up_s _ _ _ | exact (ma_up_n (by decide)).trans (by assumption)) (by rfl) ?_
    refine ma_iload_n dX12_leads_28 rfl ?_
    refine ma_zald dX12_leads_29 (by first | assumption | exact ma_up_s _ _ _ | exact (ma_up_n (by decide)).trans (by assumption)) (by omega) (by omega) (by omega) ?_
    rw [hb x z0 (by omega)]
    refine ma_rif_eq 119 dX12_leads_30 rfl (by decide) (fun c30 => ?_) (fun c30 => absurd rfl c30)
    refine ma_bipush dX12_leads_119 ?_
    exact ma_iret dX12_leads_121 rfl (K1 (by omega))
  · -- k0
    refine ma_rif_ne 16 dX12_leads_11 rfl (by decide) (fun c11 => absurd c11 (by decide)) (fun c11 => ?_)
    refine ma_iconst dX12_leads_14 ?_
    exact ma_iret dX12_leads_15 rfl (K0 (by omega))
theorem c_X12_way0 {h : ma_H} {nx d : Nat} {x n m : Int} {b : Int → Int} {I : Nat → Int} {Q : Option ma_V → ma_H → Nat → Prop} (hM : h 73 = co 12 (mo I)) (h106 : h 106 = cz 2 b) (hb : ∀ j, 0 ≤ j → j < 2 → b j = 0) (rx : rg x) (rn : rg n) (rm : rg m) (K0 : ¬ (0 ≤ x ∧ x < 2 ∧ 1 ≤ n ∧ n ≤ 30 ∧ 1 ≤ m ∧ m ≤ 8) → Q (some (vi (-1))) (ma_up h 73 (co 12 (mo (iu I 5 0)))) nx) (K1 : (0 ≤ x ∧ x < 2 ∧ 1 ≤ n ∧ n ≤ 30 ∧ 1 ≤ m ∧ m ≤ 8) → Q (some (vi (-3))) (ma_up h 73 (co 12 (mo (iu I 5 0)))) nx) : ma_Ct mX12_way (d + 1) 0 0 [vr 73, vi x, vi n, vi m] h nx Q := by
  refine ma_Ct.of (by decide +kernel) (Nat.le_of_ble_eq_true rfl) ?_
  refine ma_aload_n dX12_way_0 rfl ?_
  refine ma_iconst dX12_way_1 ?_
  refine ma_puti dX12_way_2 fX12_128 (by first | assumption | exact ma_up_s _ _ _ | exact (ma_up_n (by decide)).trans (by assumption)) (Nat.le_of_ble_eq_true rfl) ?_
  rw [mo_5]
  refine ma_iload_n dX12_way_5 rfl ?_
  refine ma_iconst dX12_way_6 ?_
  refine ma_iconst dX12_way_7 ?_
  refine ma_cS [_, _, _] dX12_way_8 wX12_in lX12_179 tX12_in (Nat.le_of_ble_eq_true rfl) ?_
  refine c_X12_in rx (by unfold rg; decide) (by unfold rg; decide) (fun z0 z1 => ?_) (fun z => ?_)
  · -- k1
    refine ma_rif_eq 34 dX12_way_11 rfl (by decide) (fun c11 => absurd c11 (by decide)) (fun c11 => ?_)
    refine ma_iload_n dX12_way_14 rfl ?_
    refine ma_iconst dX12_way_15 ?_
    refine ma_bipush dX12_way_16 ?_
    refine ma_cS [_, _, _] dX12_way_18 wX12_in lX12_179 tX12_in (Nat.le_of_ble_eq_true rfl) ?_
    refine c_X12_in rn (by unfold rg; decide) (by unfold rg; decide) (fun z0b z1b => ?_) (fun zb => ?_)
    · -- k1
      refine ma_rif_eq 34 dX12_way_21 rfl (by decide) (fun c21 => absurd c21 (by decide)) (fun c21 => ?_)
      refine ma_iload_n dX12_way_24 rfl ?_
      refine ma_iconst dX12_way_25 ?_
      refine ma_bipush dX12_way_26 ?_
      refine ma_cS [_, _, _] dX12_way_28 wX12_in lX12_179 tX12_in (Nat.le_of_ble_eq_true rfl) ?_
      refine c_X12_in rm (by unfold rg; decide) (by unfold rg; decide) (fun z0c z1c => ?_) (fun zc => ?_)
      · -- k1
        refine ma_rif_ne 36 dX12_way_31 rfl (by decide) (fun c31 => ?_) (fun c31 => absurd c31 (by decide))
        refine ma_aload_n dX12_way_36 rfl ?_
        refine ma_getf dX12_way_37 fX12_108 (by first | assumption | exact ma_up_s _ _ _ | exact (ma_up_n (by decide)).trans (by assumption)) (by rfl) ?_
        refine ma_iload_n dX12_way_40 rfl ?_
        refine ma_zald dX12_way_41 (by first | assumption | exact ma_up_s _ _ _ | exact (ma_up_n (by decide)).trans (by assumption)) (by omega) (by omega) (by omega) ?_
        rw [hb x z0 (by omega)]
        refine ma_rif_ne 48 dX12_way_42 rfl (by decide) (fun c42 => absurd rfl c42) (fun c42 => ?_)
        refine ma_bipush dX12_way_45 ?_
        exact ma_iret dX12_way_47 rfl (K1 (by omega))
      · -- k0
        refine ma_rif_ne 36 dX12_way_31 rfl (by decide) (fun c31 => absurd c31 (by decide)) (fun c31 => ?_)
        refine ma_iconst dX12_way_34 ?_
        exact ma_iret dX12_way_35 rfl (K0 (by omega))
    · -- k0
      refine ma_rif_eq 34 dX12_way_21 rfl (by decide) (fun c21 => ?_) (fun c21 => absurd c21 (by decide))
      refine ma_iconst dX12_way_34 ?_
      exact ma_iret dX12_way_35 rfl (K0 (by omega))
  · -- k0
    refine ma_rif_eq 34 dX12_way_11 rfl (by decide) (fun c11 => ?_) (fun c11 => absurd c11 (by decide))
    refine ma_iconst dX12_way_34 ?_
    exact ma_iret dX12_way_35 rfl (K0 (by omega))
