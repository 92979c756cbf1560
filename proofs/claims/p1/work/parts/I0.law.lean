theorem rf_un {t : Int} {G E P E' P' : Int → Int} {kd x y z : Int} (hG : VG t G) (hkd : 0 ≤ kd ∧ kd < 4) (h0 : 0 ≤ plc t kd x y z) (hB : kd = 1 ∨ kd = 3 → BP t G E P) (hB' : kd = 1 ∨ kd = 3 → BP t G E' P') : RF t G E P (plc t kd x y z) = RF t G E' P' (plc t kd x y z) := by
  have ht := hG.1
  have pk := plc_k (t := t) (kind := kd) (tet := x) (u := y) (v := z) (by omega) hkd
  obtain ⟨p1, p2, p3⟩ := pk
  obtain ⟨p4, p5⟩ := p3 h0
  generalize plc t kd x y z = k at *
  by_cases c : kd = 1 ∨ kd = 3
  · have hAE := bp_ae hG (hB c) (hB' c)
    have hAE' := bp_ae hG (hB' c) (hB c)
    rcases p4.mp c with w | w
    · have e3 : ∀ E P : Int → Int, RF t G E P k = if ¬ ((k - 32) / 16 < t ∧ (k - 32) / 4 % 4 < (k - 32) % 4) then -1 else @ite _ (C3 t G E (k - 32)) (Classical.propDecidable _) 0 (-2) := fun E P => by
        unfold RF
        rw [if_neg (by omega), if_pos (by omega)]
      rw [e3 E P, e3 E' P']
      by_cases q : (k - 32) / 16 < t ∧ (k - 32) / 4 % 4 < (k - 32) % 4
      · have hk : oE t (k - 32) := ⟨by omega, by omega, by omega⟩
        have ci : C3 t G E (k - 32) ↔ C3 t G E' (k - 32) := ⟨C3_un hG (hB c) hAE hk, C3_un hG (hB' c) hAE' hk⟩
        by_cases cc : C3 t G E' (k - 32)
        · rw [if_pos (ci.mpr cc), if_pos cc]
        · rw [if_neg cc, if_neg (fun z => cc (ci.mp z))]
      · rw [if_pos q, if_pos q]
    · have e3 : ∀ E P : Int → Int, RF t G E P k = if ¬ (k - 168) / 4 < t then -1 else @ite _ (C4 t G E P (k - 168)) (Classical.propDecidable _) 0 (-2) := fun E P => by
        unfold RF
        rw [if_neg (by omega), if_neg (by omega), if_neg (by omega)]
      rw [e3 E P, e3 E' P']
      by_cases q : (k - 168) / 4 < t
      · have hk : oC t (k - 168) := ⟨by omega, by omega⟩
        have ci : C4 t G E P (k - 168) ↔ C4 t G E' P' (k - 168) := ⟨C4_un hG hAE hk, C4_un hG hAE' hk⟩
        by_cases cc : C4 t G E' P' (k - 168)
        · rw [if_pos (ci.mpr cc), if_pos cc]
        · rw [if_neg cc, if_neg (fun z => cc (ci.mp z))]
      · rw [if_pos q, if_pos q]
  · rcases p5 c with w | w
    · have e3 : ∀ E P : Int → Int, RF t G E P k = R2 t G k := fun E P => by
        unfold RF
        rw [if_pos (by omega)]
      rw [e3 E P, e3 E' P']
    · have e3 : ∀ E P : Int → Int, RF t G E P k = R1 t (k - 160) := fun E P => by
        unfold RF
        rw [if_neg (by omega), if_neg (by omega), if_pos (by omega)]
      rw [e3 E P, e3 E' P']
theorem t_deg {t : Int} {G E P E' P' : Int → Int} (hG : VG t G) (hB : BP t G E P) (hB' : BP t G E' P') {k : Int} (k0 : 0 ≤ k) (k1 : k < 128) : dA E (16 * t) (eg E k) = dA E' (16 * t) (eg E' k) := by
  have ae := bp_ae hG hB hB'
  rw [dA_un hG.1 ae, eg_un ae k0 k1]
theorem t_pt {t : Int} {G E P E' P' : Int → Int} (hG : VG t G) (hB : BP t G E P) (hB' : BP t G E' P') {k : Int} (k0 : 0 ≤ k) (k1 : k < 32) : zA P (4 * t) (P k) = zA P' (4 * t) (P' k) := by
  have ae := bp_ae hG hB hB'
  rw [zA_un hG.1 ae, ae.2 k k0 k1]
theorem t_ec {t : Int} {G E P E' P' : Int → Int} (hG : VG t G) (hB : BP t G E P) (hB' : BP t G E' P') : ct (cP E) (16 * t).toNat = ct (cP E') (16 * t).toNat := by
  have ht := hG.1
  exact ct_c _ (fun q a b => cP_un (bp_ae hG hB hB') a (by omega))
theorem t_pc {t : Int} {G E P E' P' : Int → Int} (hG : VG t G) (hB : BP t G E P) (hB' : BP t G E' P') : ct (qP P) (4 * t).toNat = ct (qP P') (4 * t).toNat := by
  have ht := hG.1
  refine ct_c _ (fun q a b => ?_)
  unfold qP
  rw [(bp_ae hG hB hB').2 q a (by omega)]
theorem gm_mf {E P : Int → Int} : ¬ MF 1 GM E P := fun h => by
  have a := h.1
  rw [gm_ct (L := GM) (fun j _ _ => rfl)] at a
  omega
theorem gm_ties {L L' : Int → Int} {a b : Int} (h : LI 1 GM L (24 * 1) a) (h' : LI 1 GM L' (24 * 1) b) : a = b := by
  rw [h.2.2.2.2, h'.2.2.2.2]
  refine ct_c _ (fun q _ _ => ⟨fun z j j0 j1 => ?_, fun z j j0 j1 => ?_⟩)
  · rw [z j j0 j1, gm_L h j0 (by omega), gm_L h' j0 (by omega)]
  · rw [z j j0 j1, gm_L h j0 (by omega), gm_L h' j0 (by omega)]
theorem gm_fits {E P E' P' A C fi T0 T1 T T' : Int → Int} {n nn s nn' s' : Int} {S : Int → Prop} (hB : BP 1 GM E P) (hB' : BP 1 GM E' P') (h : FR (FI 1 GM E P A C 0) (fun x => x) T0 128 nn s T) (hF : FE E' fi n (16 * 1)) (h' : FR S fi T1 n nn' s' T') (hS : ∀ i, S i) : nn = nn' := by
  have a : nn = ct (cP E) (16 * 1 : Int).toNat := by
    rw [h.1, show (128 : Int).toNat = (128 : Int).toNat from rfl, ct_sk2 (P := FI 1 GM E P A C 0) (a := 16 * 1) (b := 128) (by decide) (by decide) (fun q q0 _ z => by have := z.1.1; omega)]
    exact ct_c _ (fun q a b => ⟨fun z => z.1.2, fun z => ⟨⟨by omega, z⟩, fun i i0 i1 => by omega⟩⟩)
  have n0 : 0 ≤ n := by rw [hF.1]; exact (ct_in _ _).1
  have b : nn' = n := by
    rw [h'.1]
    have e := ct_not (P := S) n.toNat
    rw [ct_0 (P := fun j => ¬ S j) n.toNat (fun q _ _ z => z (hS q))] at e
    omega
  rw [a, b, hF.1]
  exact t_ec gm_vg hB hB'
theorem ma_Ct_h {M : ma_M} {d a b nx : Nat} {av : List ma_V} {h g : ma_H} {Q : Option ma_V → ma_H → Nat → Prop} (e : h = g) (K : ma_Ct M d a b av g nx Q) : ma_Ct M d a b av h nx Q := e ▸ K
abbrev mLw : ma_M := (x, code, 8, some .boolean)
/-- the class is fresh -/
def FRC (h : ma_H) : Prop := ∃ hb, ∀ k, k < 73 → h k = ih0 hb k
/-- the model is fresh -/
def FMD (h : ma_H) : Prop := h 73 = co 12 (mo (fun _ => 0)) ∧ SMO h ∧ (∃ A, h 74 = ci 33 A ∧ AG 1 GM A) ∧ h 75 = cb 80 (fun _ => 0) ∧ h 76 = cl 96 (fun _ => 0) ∧ h 85 = ci 33 (fun _ => 0) ∧ h 86 = ci 128 (fun _ => 0) ∧ h 87 = ci 32 (fun _ => 0) ∧ h 88 = ci 48 (fun _ => 0) ∧ h 89 = ci 8 (fun _ => 0) ∧ h 90 = ci 32 (fun _ => 0) ∧ h 99 = ci 264 (fun _ => 0) ∧ h 100 = ci 33 (fun _ => 0) ∧ h 101 = ci 320 (fun _ => 0) ∧ h 102 = ci 4950 (fun _ => 0) ∧ h 103 = ci 150 (fun _ => 0) ∧ h 104 = ci 4 (fun _ => 0) ∧ h 105 = ci 66 (fun _ => 0) ∧ h 106 = cz 2 (fun _ => 0) ∧ h 107 = ci 33 (fun _ => 0) ∧ h 109 = ci 8 (fun _ => 0) ∧ h 110 = ci 8 (fun _ => 0)
theorem ml_73 : ∀ k : Nat, k < 73 → mlen k = 0 := by decide +kernel
theorem fmd_z {h h' : ma_H} (M : FMD h) (Z : ∀ k, 73 ≤ k → h' k = h k) : FMD h' := by
  obtain ⟨m73, mS, m74, m75, m76, m85, m86, m87, m88, m89, m90, m99, m100, m101, m102, m103, m104, m105, m106, m107, m109, m110⟩ := M
  obtain ⟨A, a, b⟩ := m74
  refine ⟨(Z 73 (by decide)).trans m73, ⟨fun k hk => ?_, ?_⟩, ⟨A, (Z 74 (by decide)).trans a, b⟩, (Z 75 (by decide)).trans m75, (Z 76 (by decide)).trans m76, (Z 85 (by decide)).trans m85, (Z 86 (by decide)).trans m86, (Z 87 (by decide)).trans m87, (Z 88 (by decide)).trans m88, (Z 89 (by decide)).trans m89, (Z 90 (by decide)).trans m90, (Z 99 (by decide)).trans m99, (Z 100 (by decide)).trans m100, (Z 101 (by decide)).trans m101, (Z 102 (by decide)).trans m102, (Z 103 (by decide)).trans m103, (Z 104 (by decide)).trans m104, (Z 105 (by decide)).trans m105, (Z 106 (by decide)).trans m106, (Z 107 (by decide)).trans m107, (Z 109 (by decide)).trans m109, (Z 110 (by decide)).trans m110⟩
  · obtain ⟨f, e⟩ := mS.1 k hk
    refine ⟨f, (Z k ?_).trans e⟩
    rcases Nat.lt_or_ge k 73 with z | z
    · exfalso
      have : mlen k = 0 := ml_73 k z
      omega
    · exact z
  · obtain ⟨pf, e, p⟩ := mS.2
    exact ⟨pf, (Z 77 (by decide)).trans e, p⟩
theorem lw_1128 {L : Nat} {S : Int → Int} {h : ma_H} {nx kc ks : Nat} {x5 x6 x7 : Option ma_V} (hL : 5 ≤ L ∧ L < 10) : ma_J (some (L, S)) mLw 11 kc ks 1128 [some (vr 2000000), some (vr 0), some (vr 73), some (vr 111), some (vi 0), x5, x6, x7] [] h nx (fun r _ _ => r = some (vi 1)) := by
  refine ma_iincN dL_law_1128 rfl (by decide) rfl ?_
  refine ma_goto 23 dL_law_1131 rfl ?_
  refine ma_iload dL_law_23 rfl ?_
  refine ma_aload_n dL_law_25 rfl ?_
  refine ma_slen dL_law_26 ?_
  refine ma_iconst dL_law_27 ?_
  refine ma_isub dL_law_28 ?_
  refine ma_rcmp_gt 1134 dL_law_29 rfl (by decide) (by constructor <;> omega) (fun c29 => ?_) (fun c29 => by omega)
  refine ma_iconst dL_law_1134 ?_
  exact ma_zret dL_law_1135 rfl (Or.inr rfl) rfl
