/-- which tet and faces a place means -/
def PLC (k a : Int) (X : Int → Prop) : Prop :=
  (0 ≤ k ∧ k < 32 ∧ a = k / 4 ∧ ∀ x, 0 ≤ x → x < 4 → (X x ↔ x = k % 4)) ∨ (32 ≤ k ∧ k < 160 ∧ a = (k - 32) / 16 ∧ (k - 32) / 4 % 4 ≠ (k - 32) % 4 ∧ ∀ x, 0 ≤ x → x < 4 → (X x ↔ x ≠ (k - 32) / 4 % 4 ∧ x ≠ (k - 32) % 4)) ∨
  (160 ≤ k ∧ k < 168 ∧ a = k - 160 ∧ ∀ x, 0 ≤ x → x < 4 → ¬ X x) ∨ (168 ≤ k ∧ k < 200 ∧ a = (k - 168) / 4 ∧ ∀ x, 0 ≤ x → x < 4 → (X x ↔ x ≠ (k - 168) % 4))
/-- what a move lays -/
def MR (t : Int) (G : Int → Int) (k t' : Int) (C : Int → Int) : Prop := ∃ a X nw s H T, PLC k a X ∧ FL t G a X nw s t' ∧ FU t G a X nw H T ∧ FC G t X nw H T C
theorem mr_ok {t k t' : Int} {G C : Int → Int} (hG : VG t G) (hC : CN t G) (h : MR t G k t' C) : VG t' C ∧ CN t' C := by
  obtain ⟨a, X, nw, s, H, T, h1, h2, h3, h4⟩ := h
  have := fl_su hG h2 h3 h4
  exact ⟨su_vg hG this, su_cn hG hC this⟩
def gr (k : Int) : Int := if k < 160 then (if k < 32 then 1 else -1) else (if k < 168 then 3 else -3)
def SN (h : ma_H) : Prop := ∃ L A B C, h 40 = ci 32 L ∧ h 41 = ci 8 A ∧ h 42 = ci 8 B ∧ h 43 = ci 8 C
def SV (h : ma_H) : Prop := ∃ H T, h 57 = ci 32 H ∧ h 58 = ci 32 T
theorem sn_kp {h h' : ma_H} {l : List Nat} (k : kp h h' l) (h0 : 40 ∉ l) (h1 : 41 ∉ l) (h2 : 42 ∉ l) (h3 : 43 ∉ l) (s : SN h) : SN h' := by
  obtain ⟨L, A, B, C, a, b, c, d⟩ := s
  exact ⟨L, A, B, C, (k 40 h0).trans a, (k 41 h1).trans b, (k 42 h2).trans c, (k 43 h3).trans d⟩
theorem sv_kp {h h' : ma_H} {l : List Nat} (k : kp h h' l) (h0 : 57 ∉ l) (h1 : 58 ∉ l) (s : SV h) : SV h' := by
  obtain ⟨H, T, a, b⟩ := s
  exact ⟨H, T, (k 57 h0).trans a, (k 58 h1).trans b⟩
theorem sty_4 {t a b c e : Int} (a0 : 0 ≤ a) (a1 : a < t) (b0 : 0 ≤ b) (b1 : b < t) (c0 : 0 ≤ c) (c1 : c < t) (e0 : 0 ≤ e) (e1 : e < t) (ab : a ≠ b) (ac : a ≠ c) (ae : a ≠ e) (bc : b ≠ c) (be : b ≠ e) (ce : c ≠ e) : sty (fun i => ((i = a ∨ i = b) ∨ i = c) ∨ i = e) t = t - 4 := by
  have h := ct_not (P := fun j => ((j = a ∨ j = b) ∨ j = c) ∨ j = e) t.toNat
  rw [ct_o (P := fun j => (j = a ∨ j = b) ∨ j = c) t.toNat (fun j _ _ p q => by omega), ct_o (P := fun j => j = a ∨ j = b) t.toNat (fun j _ _ p q => by omega), ct_o t.toNat (fun j _ _ p q => by omega), ct_1 a0, ct_1 b0, ct_1 c0, ct_1 e0, if_pos (by omega), if_pos (by omega), if_pos (by omega), if_pos (by omega)] at h
  show ct (fun j => ¬ (((j = a ∨ j = b) ∨ j = c) ∨ j = e)) t.toNat = t - 4
  omega
theorem four_t {t : Int} {G E P : Int → Int} {k s : Int} {X : Int → Prop} (hG : VG t G) (hk : oC t k) (h : C4 t G E P k) (hX : ∀ x, 0 ≤ x → x < 4 → (X x ↔ x ≠ k % 4)) (hs : s = sty (gS G (k / 4) X) t) : s + 1 = t - 3 := by
  have ht := hG.1
  obtain ⟨q1, q2⟩ := q4 hG h hk rfl
  obtain ⟨x, y, z, ⟨x0, x1, xc⟩, ⟨y0, y1, yc⟩, ⟨z0, z1, zc⟩, xy, xz, yz, hw⟩ := three_of (m4 k).1 (m4 k).2
  have e : gS G (k / 4) X = fun i => ((i = k / 4 ∨ i = G (4 * (k / 4) + x) / 32) ∨ i = G (4 * (k / 4) + y) / 32) ∨ i = G (4 * (k / 4) + z) / 32 := by
    funext i
    refine propext ⟨fun w => ?_, fun w => ?_⟩
    · rcases w with w | ⟨f, f0, f1, f2, f3⟩
      · exact Or.inl (Or.inl (Or.inl w))
      · rcases hw f f0 f1 ((hX f f0 f1).mp f2) with d | d | d <;> subst d
        · exact Or.inl (Or.inl (Or.inr f3))
        · exact Or.inl (Or.inr f3)
        · exact Or.inr f3
    · rcases w with ((w | w) | w) | w
      · exact Or.inl w
      · exact Or.inr ⟨x, x0, x1, (hX x x0 x1).mpr xc, w⟩
      · exact Or.inr ⟨y, y0, y1, (hX y y0 y1).mpr yc, w⟩
      · exact Or.inr ⟨z, z0, z1, (hX z z0 z1).mpr zc, w⟩
  obtain ⟨a1, a2, a3⟩ := q1 x x0 x1 xc
  obtain ⟨b1, b2, b3⟩ := q1 y y0 y1 yc
  obtain ⟨c1, c2, c3⟩ := q1 z z0 z1 zc
  have d1 := q2 x y x0 x1 xc y0 y1 yc xy
  have d2 := q2 x z x0 x1 xc z0 z1 zc xz
  have d3 := q2 y z y0 y1 yc z0 z1 zc yz
  have hk1 := hk.1
  have hk2 := hk.2
  rw [hs, e, sty_4 (by omega) (by omega) (by omega) a2 (by omega) b2 (by omega) c2 (Ne.symm a3) (Ne.symm b3) (Ne.symm c3) d1 d2 d3]
  omega
theorem c_X1_growth {h : ma_H} {nx d : Nat} {k : Int} {Q : Option ma_V → ma_H → Nat → Prop} (hk : 0 ≤ k ∧ k < 200) (K : Q (some (vi (gr k))) h nx) : ma_Ct mX1_growth d 0 0 [vi k] h nx Q := by
  unfold gr at K
  refine ma_Ct.of (by decide +kernel) (Nat.le_of_ble_eq_true rfl) ?_
  refine ma_iload_n dX1_growth_0 rfl ?_
  refine ma_sipush dX1_growth_1 ?_
  refine ma_rcmp_ge 19 dX1_growth_4 rfl (by constructor <;> omega) (by constructor <;> omega) (fun c4 => ?_) (fun c4 => ?_)
  · -- 19
    refine ma_iload_n dX1_growth_19 rfl ?_
    refine ma_sipush dX1_growth_20 ?_
    refine ma_rcmp_ge 30 dX1_growth_23 rfl (by constructor <;> omega) (by constructor <;> omega) (fun c23 => ?_) (fun c23 => ?_)
    · -- 30
      refine ma_bipush dX1_growth_30 ?_
      first | (rw [if_neg (by omega), if_pos (by omega)] at K; exact ma_iret dX1_growth_32 rfl K) | (rw [if_neg (by omega), if_neg (by omega)] at K; exact ma_iret dX1_growth_32 rfl K)
    · -- 26
      refine ma_iconst dX1_growth_26 ?_
      refine ma_goto 32 dX1_growth_27 rfl ?_
      first | (rw [if_neg (by omega), if_pos (by omega)] at K; exact ma_iret dX1_growth_32 rfl K) | (rw [if_neg (by omega), if_neg (by omega)] at K; exact ma_iret dX1_growth_32 rfl K)
  · -- 7
    refine ma_iload_n dX1_growth_7 rfl ?_
    refine ma_bipush dX1_growth_8 ?_
    refine ma_rcmp_ge 17 dX1_growth_10 rfl (by constructor <;> omega) (by constructor <;> omega) (fun c10 => ?_) (fun c10 => ?_)
    · -- 17
      refine ma_iconst dX1_growth_17 ?_
      first | (rw [if_pos (by omega), if_pos (by omega)] at K; exact ma_iret dX1_growth_18 rfl K) | (rw [if_pos (by omega), if_neg (by omega)] at K; exact ma_iret dX1_growth_18 rfl K)
    · -- 13
      refine ma_iconst dX1_growth_13 ?_
      refine ma_goto 18 dX1_growth_14 rfl ?_
      first | (rw [if_pos (by omega), if_pos (by omega)] at K; exact ma_iret dX1_growth_18 rfl K) | (rw [if_pos (by omega), if_neg (by omega)] at K; exact ma_iret dX1_growth_18 rfl K)
theorem l_X1_make_81 {h : ma_H} {b g c e d : Nat} {t k t1 : Int} {G : Int → Int} {Q : Option ma_V → ma_H → Nat → Prop} {h2 : ma_H} {C : Int → Int} (sb : b < 39 ∨ 58 < b) (sg : g < 39 ∨ 58 < g) (sc : (c = 55 ∧ e = 56) ∨ (c = 62 ∧ e = 63)) (nbc : b ≠ c ∧ b ≠ e ∧ g ≠ c ∧ g ≠ e) (hm : h2 54 = co 1 [vr 44, vr 39, vr 55, vr 57, vr 58]) (hn : h2 39 = co 2 [vr 40, vr 41, vr 42, vr 43]) (hc2 : h2 c = co 8 [vi t1, vr e]) (he2 : h2 e = ci 32 C) (hs : SN h2) (hv : SV h2) (hk2 : kp h h2 [c, e, 57, 58]) (hC1 : VG t1 C) (hC2 : CN t1 C) (hM : MR t G k t1 C) (K : ∀ h' C L ties, kp h h' [c, e, 57, 58, 40, 41, 42, 43] → h' c = co 8 [vi t1, vr e] → h' e = ci 32 (stl t1 C L) → SN h' → SV h' → MR t G k t1 C → LI t1 C L (24 * t1) ties → Q none h' 1000000) : ma_J none mX1_make (d + 3) 0 0 81 [some (vr 54), some (vr b), some (vi k), some (vr c)] [] h2 1000000 Q := by
  obtain ⟨L0, A0, B0, C0, e40, e41, e42, e43⟩ := hs
  rw [nh_of e40 e41 e42 e43]
  refine ma_aload_n dX1_make_81 rfl ?_
  refine ma_getf dX1_make_82 fX1_29 (by exact (nh_n (by omega)).trans (by assumption)) (by rfl) ?_
  refine ma_aload_n dX1_make_85 rfl ?_
  refine ma_cV [_] dX1_make_86 wX2_settle lX1_148 iX2_settle sX2_settle rfl (by exact (nh_n (by omega)).trans (by assumption)) (Nat.le_of_ble_eq_true rfl) ?_
  refine c_X2_settle (fun L A B C => (nh_n (by omega)).trans hn) (fun L A B C => (nh_n (by omega)).trans hc2) (fun L A B C => (nh_n (by omega)).trans he2) hC1 hC2 (fun L A B C' ties hLI => ?_)
  refine ma_pop dX1_make_89 rfl ?_
  refine ma_vret dX1_make_90 rfl (K _ C L ties (fun j hj => ?_) ?_ (ma_up_s _ _ _) ⟨L, A, B, C', ?_, ?_, ?_, ?_⟩ ?_ hM hLI)
  · simp only [List.mem_cons, List.not_mem_nil, or_false, not_or] at hj
    rw [ma_up_n hj.2.1, nh_n (by omega)]
    exact hk2 j (by simp only [List.mem_cons, List.not_mem_nil, or_false, not_or]; exact ⟨hj.1, hj.2.1, hj.2.2.1, hj.2.2.2.1⟩)
  · exact (ma_up_n (by omega)).trans ((nh_n (by omega)).trans hc2)
  · exact (ma_up_n (by omega)).trans nh_40
  · exact (ma_up_n (by omega)).trans nh_41
  · exact (ma_up_n (by omega)).trans nh_42
  · exact (ma_up_n (by omega)).trans nh_43
  · obtain ⟨H, T, a, b⟩ := hv
    exact ⟨H, T, (ma_up_n (by omega)).trans ((nh_n (by omega)).trans a), (ma_up_n (by omega)).trans ((nh_n (by omega)).trans b)⟩
set_option maxHeartbeats 2000000 in
theorem c_X1_make {h : ma_H} {b g c e d : Nat} {t u k t1 : Int} {G F E P : Int → Int} {Q : Option ma_V → ma_H → Nat → Prop} (sb : b < 39 ∨ 58 < b) (sg : g < 39 ∨ 58 < g) (sc : (c = 55 ∧ e = 56) ∨ (c = 62 ∧ e = 63)) (nbc : b ≠ c ∧ b ≠ e ∧ g ≠ c ∧ g ≠ e) (hm : h 54 = co 1 [vr 44, vr 39, vr 55, vr 57, vr 58]) (hn : h 39 = co 2 [vr 40, vr 41, vr 42, vr 43]) (hb : h b = co 8 [vi t, vr g]) (hg : h g = ci 32 G) (hc : h c = co 8 [vi u, vr e]) (he : h e = ci 32 F) (hs : SN h) (hv : SV h) (hG : VG t G) (hC : CN t G) (hk : 0 ≤ k ∧ k < 200) (hR : RF t G E P k = 0) (hB : (32 ≤ k ∧ k < 160) ∨ 168 ≤ k → BP t G E P) (ht1 : t1 = t + gr k) (K : ∀ h' C L ties, kp h h' [c, e, 57, 58, 40, 41, 42, 43] → h' c = co 8 [vi t1, vr e] → h' e = ci 32 (stl t1 C L) → SN h' → SV h' → MR t G k t1 C → LI t1 C L (24 * t1) ties → Q none h' 1000000) : ma_Ct mX1_make (d + 3) 0 0 [vr 54, vr b, vi k, vr c] h 1000000 Q := by
  have ht := hG.1
  refine ma_Ct.of (by decide +kernel) (Nat.le_of_ble_eq_true rfl) ?_
  refine ma_aload_n dX1_make_0 rfl ?_
  refine ma_aload_n dX1_make_1 rfl ?_
  refine ma_getf dX1_make_2 fX1_54 (by assumption) (by rfl) ?_
  refine ma_iload_n dX1_make_5 rfl ?_
  refine ma_cS [_] dX1_make_6 wX1_growth lX1_129 tX1_growth (Nat.le_of_ble_eq_true rfl) ?_
  refine c_X1_growth hk ?_
  refine ma_iadd dX1_make_9 ?_
  refine ma_cV [_] dX1_make_10 wX8_clear lX1_132 iX8_clear sX8_clear rfl (by assumption) (Nat.le_of_ble_eq_true rfl) ?_
  refine c_X8_clear hc he (by omega) ?_
  rw [← ht1]
  have hk1 : kp h (ma_up (ma_up h c (co 8 [vi t1, vr e])) e (ci 32 (fun _ => -1))) [c, e, 57, 58] := kp_up (by simp) (kp_up (by simp) (kp_rf _ _))
  have hc1 : (ma_up (ma_up h c (co 8 [vi t1, vr e])) e (ci 32 (fun _ => -1))) c = co 8 [vi t1, vr e] := (ma_up_n (by omega)).trans (ma_up_s _ _ _)
  have he1 : (ma_up (ma_up h c (co 8 [vi t1, vr e])) e (ci 32 (fun _ => -1))) e = ci 32 (fun _ => -1) := ma_up_s _ _ _
  have hm1 := (hk1 54 (by simp; omega)).trans hm
  have hn1 := (hk1 39 (by simp; omega)).trans hn
  have hb1 := (hk1 b (by simp; omega)).trans hb
  have hg1 := (hk1 g (by simp; omega)).trans hg
  have hs1 := sn_kp hk1 (by simp; omega) (by simp; omega) (by simp; omega) (by simp; omega) hs
  have hv1 : SV (ma_up (ma_up h c (co 8 [vi t1, vr e])) e (ci 32 (fun _ => -1))) := by
    obtain ⟨H, T, a, b⟩ := hv
    exact ⟨H, T, (ma_up_n (by omega)).trans ((ma_up_n (by omega)).trans a), (ma_up_n (by omega)).trans ((ma_up_n (by omega)).trans b)⟩
  generalize ma_up (ma_up h c (co 8 [vi t1, vr e])) e (ci 32 (fun _ => -1)) = h1 at *
  obtain ⟨H0, T0, e57, e58⟩ := hv1
  refine ma_iload_n dX1_make_13 rfl ?_
  refine ma_bipush dX1_make_14 ?_
  refine ma_rcmp_ge 29 dX1_make_16 rfl (by constructor <;> omega) (by constructor <;> omega) (fun c16 => ?_) (fun c16 => ?_)
  · -- 29
    refine ma_iload_n dX1_make_29 rfl ?_
    refine ma_sipush dX1_make_30 ?_
    refine ma_rcmp_ge 49 dX1_make_33 rfl (by constructor <;> omega) (by constructor <;> omega) (fun c33 => ?_) (fun c33 => ?_)
    · -- 49
      refine ma_iload_n dX1_make_49 rfl ?_
      refine ma_sipush dX1_make_50 ?_
      refine ma_rcmp_ge 70 dX1_make_53 rfl (by constructor <;> omega) (by constructor <;> omega) (fun c53 => ?_) (fun c53 => ?_)
      · -- 70
        refine ma_aload_n dX1_make_70 rfl ?_
        refine ma_aload_n dX1_make_71 rfl ?_
        refine ma_iload_n dX1_make_72 rfl ?_
        refine ma_sipush dX1_make_73 ?_
        refine ma_isub dX1_make_76 ?_
        refine ma_aload_n dX1_make_77 rfl ?_
        refine ma_cV [_, _, _] dX1_make_78 wX1_fourToOne lX1_145 iX1_fourToOne sX1_fourToOne rfl (by assumption) (Nat.le_of_ble_eq_true rfl) ?_
        have eg : gr k = -3 := by unfold gr; rw [if_neg (by omega), if_neg (by omega)]
        have hr : (k - 168) / 4 < t ∧ C4 t G E P (k - 168) := by
          unfold RF at hR
          rw [if_neg (by omega), if_neg (by omega), if_neg (by omega)] at hR
          by_cases z : (k - 168) / 4 < t
          · rw [if_neg (fun w => w z)] at hR
            by_cases y : C4 t G E P (k - 168)
            · exact ⟨z, y⟩
            · rw [if_neg y] at hR; omega
          · rw [if_pos z] at hR; omega
        have ho : oC t (k - 168) := ⟨by omega, by omega⟩
        have et : t1 = t + gr k := ht1
        rw [eg] at et
        refine m_four hm1 hb1 hg1 hc1 he1 e57 e58 (by omega) (by omega) (by omega) (by omega) (by omega) (by omega) (by omega) hG (hB (Or.inr (by omega))) ho hr.2 ?_
        intro h' H T C X nw s hX hs0 kk a57 a58 ae fl fu fc
        rw [four_t hG ho hr.2 hX hs0, show t - 3 = t1 by omega] at fl
        have mr : MR t G k t1 C := ⟨_, _, _, _, H, T, Or.inr (Or.inr (Or.inr ⟨by omega, by omega, rfl, hX⟩)), fl, fu, fc⟩
        exact l_X1_make_81 (h := h) (t := t) (G := G) (C := C) sb sg sc nbc ((kk 54 (by simp; omega)).trans hm1) ((kk 39 (by simp; omega)).trans hn1) ((kk c (by simp; omega)).trans hc1) ae (sn_kp kk (by simp; omega) (by simp; omega) (by simp; omega) (by simp; omega) hs1) ⟨H, T, a57, a58⟩ (kp_tr hk1 (kp_mo (by simp) kk)) (mr_ok hG hC mr).1 (mr_ok hG hC mr).2 mr K
      · -- 56
        refine ma_aload_n dX1_make_56 rfl ?_
        refine ma_aload_n dX1_make_57 rfl ?_
        refine ma_iload_n dX1_make_58 rfl ?_
        refine ma_sipush dX1_make_59 ?_
        refine ma_isub dX1_make_62 ?_
        refine ma_aload_n dX1_make_63 rfl ?_
        refine ma_cV [_, _, _] dX1_make_64 wX1_oneToFour lX1_142 iX1_oneToFour sX1_oneToFour rfl (by assumption) (Nat.le_of_ble_eq_true rfl) ?_
        have eg : gr k = 3 := by unfold gr; rw [if_neg (by omega), if_pos (by omega)]
        have hr : t ≤ 5 ∧ k - 160 < t := by
          unfold RF at hR
          rw [if_neg (by omega), if_neg (by omega), if_pos (by omega)] at hR
          unfold R1 at hR
          (repeat' split at hR) <;> omega
        have et : t1 = t + gr k := ht1
        rw [eg] at et
        refine m_one hm1 hb1 hg1 hc1 he1 e57 e58 (by omega) (by omega) (by omega) (by omega) (by omega) (by omega) (by omega) hG (by constructor <;> omega) hr.1 ?_
        intro h' H T C kk a57 a58 ae fl fu fc
        rw [← et] at fl
        have mr : MR t G k t1 C := ⟨_, _, _, _, H, T, Or.inr (Or.inr (Or.inl ⟨by omega, by omega, rfl, fun x _ _ z => z⟩)), fl, fu, fc⟩
        exact ma_goto 81 dX1_make_67 rfl (l_X1_make_81 (h := h) (t := t) (G := G) (C := C) sb sg sc nbc ((kk 54 (by simp; omega)).trans hm1) ((kk 39 (by simp; omega)).trans hn1) ((kk c (by simp; omega)).trans hc1) ae (sn_kp kk (by simp; omega) (by simp; omega) (by simp; omega) (by simp; omega) hs1) ⟨H, T, a57, a58⟩ (kp_tr hk1 (kp_mo (by simp) kk)) (mr_ok hG hC mr).1 (mr_ok hG hC mr).2 mr K)
    · -- 36
      refine ma_aload_n dX1_make_36 rfl ?_
      refine ma_aload_n dX1_make_37 rfl ?_
      refine ma_iload_n dX1_make_38 rfl ?_
      refine ma_bipush dX1_make_39 ?_
      refine ma_isub dX1_make_41 ?_
      refine ma_aload_n dX1_make_42 rfl ?_
      refine ma_cV [_, _, _] dX1_make_43 wX1_threeToTwo lX1_139 iX1_threeToTwo sX1_threeToTwo rfl (by assumption) (Nat.le_of_ble_eq_true rfl) ?_
      have eg : gr k = -1 := by unfold gr; rw [if_pos (by omega), if_neg (by omega)]
      have hr : ((k - 32) / 16 < t ∧ (k - 32) / 4 % 4 < (k - 32) % 4) ∧ C3 t G E (k - 32) := by
        unfold RF at hR
        rw [if_neg (by omega), if_pos (by omega)] at hR
        by_cases z : (k - 32) / 16 < t ∧ (k - 32) / 4 % 4 < (k - 32) % 4
        · rw [if_neg (fun w => w z)] at hR
          by_cases y : C3 t G E (k - 32)
          · exact ⟨z, y⟩
          · rw [if_neg y] at hR; omega
        · rw [if_pos z] at hR; omega
      have ho : oE t (k - 32) := ⟨by omega, by omega, by omega⟩
      have et : t1 = t + gr k := ht1
      rw [eg] at et
      refine m_three hm1 hb1 hg1 hc1 he1 e57 e58 (by omega) (by omega) (by omega) (by omega) (by omega) (by omega) (by omega) hG (hB (Or.inl ⟨by omega, by omega⟩)) ho hr.1.2 hr.2 ?_
      intro h' H T C X nw hX n1 n2 kk a57 a58 ae fl fu fc
      rw [show t - 1 = t1 by omega] at fl
      have mr : MR t G k t1 C := ⟨_, _, _, _, H, T, Or.inr (Or.inl ⟨by omega, by omega, rfl, ho.2.2, hX⟩), fl, fu, fc⟩
      exact ma_goto 81 dX1_make_46 rfl (l_X1_make_81 (h := h) (t := t) (G := G) (C := C) sb sg sc nbc ((kk 54 (by simp; omega)).trans hm1) ((kk 39 (by simp; omega)).trans hn1) ((kk c (by simp; omega)).trans hc1) ae (sn_kp kk (by simp; omega) (by simp; omega) (by simp; omega) (by simp; omega) hs1) ⟨H, T, a57, a58⟩ (kp_tr hk1 (kp_mo (by simp) kk)) (mr_ok hG hC mr).1 (mr_ok hG hC mr).2 mr K)
  · -- 19
    refine ma_aload_n dX1_make_19 rfl ?_
    refine ma_aload_n dX1_make_20 rfl ?_
    refine ma_iload_n dX1_make_21 rfl ?_
    refine ma_aload_n dX1_make_22 rfl ?_
    refine ma_cV [_, _, _] dX1_make_23 wX1_twoToThree lX1_136 iX1_twoToThree sX1_twoToThree rfl (by assumption) (Nat.le_of_ble_eq_true rfl) ?_
    have eg : gr k = 1 := by unfold gr; rw [if_pos (by omega), if_pos (by omega)]
    have hr : t ≤ 7 ∧ k < 4 * t ∧ 0 ≤ G k ∧ G k / 32 ≠ k / 4 := by
      unfold RF at hR
      rw [if_pos (by omega)] at hR
      unfold R2 at hR
      (repeat' split at hR) <;> omega
    have et : t1 = t + gr k := ht1
    rw [eg] at et
    refine m_two hm1 hb1 hg1 hc1 he1 e57 e58 (by omega) (by omega) (by omega) (by omega) (by omega) (by omega) (by omega) hG ⟨hk.1, hr.2.1⟩ ⟨hr.2.2.1, hr.2.2.2⟩ hr.1 ?_
    intro h' H T C kk a57 a58 ae fl fu fc
    rw [← et] at fl
    have mr : MR t G k t1 C := ⟨_, _, _, _, H, T, Or.inl ⟨hk.1, by omega, rfl, fun x _ _ => Iff.rfl⟩, fl, fu, fc⟩
    exact ma_goto 81 dX1_make_26 rfl (l_X1_make_81 (h := h) (t := t) (G := G) (C := C) sb sg sc nbc ((kk 54 (by simp; omega)).trans hm1) ((kk 39 (by simp; omega)).trans hn1) ((kk c (by simp; omega)).trans hc1) ae (sn_kp kk (by simp; omega) (by simp; omega) (by simp; omega) (by simp; omega) hs1) ⟨H, T, a57, a58⟩ (kp_tr hk1 (kp_mo (by simp) kk)) (mr_ok hG hC mr).1 (mr_ok hG hC mr).2 mr K)
