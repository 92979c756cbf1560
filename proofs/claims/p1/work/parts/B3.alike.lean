/-- alike where they are asked -/
def AE (E E' P P' : Int → Int) : Prop := (∀ x, 0 ≤ x → x < 128 → E x = E' x) ∧ ∀ x, 0 ≤ x → x < 32 → P x = P' x
theorem ae_s {E E' P P' : Int → Int} (h : AE E E' P P') : AE E' E P' P := ⟨fun x a b => (h.1 x a b).symm, fun x a b => (h.2 x a b).symm⟩
theorem tr_in' {x : Int} (h0 : 0 ≤ x) (h1 : x < 128) : 0 ≤ tr x ∧ tr x < 128 := by
  have p := (tr_p x).1
  generalize tr x = y at *
  omega
theorem eg_un {E E' P P' : Int → Int} (h : AE E E' P P') {x : Int} (h0 : 0 ≤ x) (h1 : x < 128) : eg E x = eg E' x := by
  have t := tr_in' h0 h1
  unfold eg
  rw [h.1 x h0 h1, h.1 _ t.1 t.2]
theorem cP_un {E E' P P' : Int → Int} (h : AE E E' P P') {x : Int} (h0 : 0 ≤ x) (h1 : x < 128) : (cP E x ↔ cP E' x) := by
  unfold cP
  rw [eg_un h h0 h1]
theorem dA_un {t : Int} {E E' P P' : Int → Int} (ht : 1 ≤ t ∧ t ≤ 8) (h : AE E E' P P') (m : Int) : dA E (16 * t) m = dA E' (16 * t) m := by
  unfold dA
  refine ct_c _ (fun q q0 q1 => ?_)
  unfold dP
  rw [eg_un h q0 (by omega)]
theorem fP_un {t : Int} {E E' P P' G : Int → Int} (ht : 1 ≤ t ∧ t ≤ 8) (h : AE E E' P P') {m : Int} (hf : fP E G (16 * t) 0 m) : fP E' G (16 * t) 0 m := by
  obtain ⟨x, g, a1, a2, a3, a4, a5, a6, a7⟩ := hf
  exact ⟨x, g, a1, a2, a3, a4, a5, by rw [← eg_un h a1 (by omega)]; exact a6, a7⟩
theorem fA_un {t : Int} {E E' P P' G : Int → Int} (ht : 1 ≤ t ∧ t ≤ 8) (h : AE E E' P P') (m : Int) : fA E G (16 * t) 0 m = fA E' G (16 * t) 0 m := by
  unfold fA
  by_cases z : fP E G (16 * t) 0 m
  · rw [if_pos z, if_pos (fP_un ht h z)]
  · rw [if_neg z, if_neg (fun w => z (fP_un ht (ae_s h) w))]
theorem C3_un {t : Int} {G E E' P P' : Int → Int} (hG : VG t G) (hB : BP t G E P) (h : AE E E' P P') {k : Int} (hk : oE t k) (hc : C3 t G E k) : C3 t G E' k := by
  have ht := hG.1
  have k1 : k < 128 := by have := hk.2.1; omega
  obtain ⟨i1, i2, i3, i4⟩ := eg_in hB hG hk
  have e := eg_un h hk.1 k1
  obtain ⟨c1, c2, c3, c4⟩ := hc
  have t' := tr_in' i1 i2
  refine ⟨by rw [← dA_un ht h, ← e]; exact c1, by rw [← fA_un ht h, ← e]; exact c2, ?_, c4⟩
  rw [← e, ← h.1 _ i1 i2, ← h.1 _ t'.1 t'.2]
  exact c3
theorem zA_un {t : Int} {E E' P P' : Int → Int} (ht : 1 ≤ t ∧ t ≤ 8) (h : AE E E' P P') (m : Int) : zA P (4 * t) m = zA P' (4 * t) m := by
  unfold zA
  refine ct_c _ (fun q q0 q1 => ?_)
  unfold zP
  rw [h.2 q q0 (by omega)]
theorem sA_un {t : Int} {E E' P P' G : Int → Int} (ht : 1 ≤ t ∧ t ≤ 8) (h : AE E E' P P') (m : Int) : sA P G (16 * t) m = sA P' G (16 * t) m := by
  unfold sA
  refine ct_c _ (fun q q0 q1 => ?_)
  unfold sP
  rw [h.2 (q / 4) (by omega) (by omega)]
theorem nA_un {t : Int} {E E' P P' : Int → Int} (ht : 1 ≤ t ∧ t ≤ 8) (h : AE E E' P P') (m : Int) : nA P E (16 * t) m = nA P' E' (16 * t) m := by
  unfold nA
  refine ct_c _ (fun q q0 q1 => ?_)
  unfold nP
  rw [h.2 (q / 4) (by omega) (by omega), h.1 q q0 (by omega)]
theorem xi_un {t : Int} {G E E' P P' : Int → Int} (ht : 1 ≤ t ∧ t ≤ 8) (h : AE E E' P P') (m : Int) : xi (zA P (4 * t)) (nA P E (16 * t)) (sA P G (16 * t)) m = xi (zA P' (4 * t)) (nA P' E' (16 * t)) (sA P' G (16 * t)) m := by
  unfold xi
  rw [zA_un ht h, nA_un ht h, sA_un ht h]
theorem TS_un {t : Int} {E E' P P' : Int → Int} (ht : 1 ≤ t ∧ t ≤ 8) (h : AE E E' P P') (m i : Int) : (TS P m (4 * t) i ↔ TS P' m (4 * t) i) := by
  constructor
  · rintro ⟨c, c0, c1, c2, c3⟩
    exact ⟨c, c0, c1, by rw [← h.2 c c0 (by omega)]; exact c2, c3⟩
  · rintro ⟨c, c0, c1, c2, c3⟩
    exact ⟨c, c0, c1, by rw [h.2 c c0 (by omega)]; exact c2, c3⟩
theorem C4_un {t : Int} {G E E' P P' : Int → Int} (hG : VG t G) (h : AE E E' P P') {k : Int} (hk : oC t k) (hc : C4 t G E P k) : C4 t G E' P' k := by
  have ht := hG.1
  have k1 : k < 32 := by have := hk.2; omega
  have e := h.2 k hk.1 k1
  obtain ⟨c1, ⟨c2, c3⟩, c4, m, c5, c6⟩ := hc
  refine ⟨by rw [← zA_un ht h, ← e]; exact c1, ⟨by rw [← sA_un ht h, ← e]; exact c2, by rw [← xi_un ht h, ← e]; exact c3⟩, fun c c0 c1 hp i i0 i1 => ?_, m, mk_iff c5 (fun i i0 i1 => by rw [← e]; exact TS_un ht h _ i), c6⟩
  rw [c4 c c0 c1 (by rw [h.2 c c0 (by omega), e]; exact hp) i i0 i1, ← e]
  exact TS_un ht h _ i
theorem bp_ae {t : Int} {G E E' P P' : Int → Int} (hG : VG t G) (h : BP t G E P) (h' : BP t G E' P') : AE E E' P P' := bp_un hG h h'
/-- a move can be, whoever read the bones -/
def RFE (t : Int) (G : Int → Int) (kd k : Int) : Prop := ∃ E P, (kd = 1 ∨ kd = 3 → BP t G E P) ∧ RF t G E P k = 0
theorem rfe_un {t : Int} {G E P : Int → Int} {kd x y z : Int} (hG : VG t G) (hkd : 0 ≤ kd ∧ kd < 4) (h0 : 0 ≤ plc t kd x y z) (hB : kd = 1 ∨ kd = 3 → BP t G E P) (hR : RF t G E P (plc t kd x y z) < 0) : ¬ RFE t G kd (plc t kd x y z) := by
  rintro ⟨E', P', hB', hR'⟩
  have ht := hG.1
  have pk := plc_k (t := t) (kind := kd) (tet := x) (u := y) (v := z) (by omega) hkd
  obtain ⟨p1, p2, p3⟩ := pk
  obtain ⟨p4, p5⟩ := p3 h0
  generalize plc t kd x y z = k at *
  by_cases c : kd = 1 ∨ kd = 3
  · have hAE := bp_ae hG (hB c) (hB' c)
    have hAE' := bp_ae hG (hB' c) (hB c)
    rcases p4.mp c with w | w
    · unfold RF at hR hR'
      rw [if_neg (by omega), if_pos (by omega)] at hR hR'
      by_cases q : (k - 32) / 16 < t ∧ (k - 32) / 4 % 4 < (k - 32) % 4
      · rw [if_neg (fun n => n q)] at hR hR'
        have hk : oE t (k - 32) := ⟨by omega, by omega, by omega⟩
        by_cases cc : C3 t G E' (k - 32)
        · rw [if_pos (C3_un hG (hB' c) hAE' hk cc)] at hR
          omega
        · rw [if_neg cc] at hR'
          omega
      · rw [if_pos q] at hR'
        omega
    · unfold RF at hR hR'
      rw [if_neg (by omega), if_neg (by omega), if_neg (by omega)] at hR hR'
      by_cases q : (k - 168) / 4 < t
      · rw [if_neg (fun n => n q)] at hR hR'
        have hk : oC t (k - 168) := ⟨by omega, by omega⟩
        by_cases cc : C4 t G E' P' (k - 168)
        · rw [if_pos (C4_un hG hAE' hk cc)] at hR
          omega
        · rw [if_neg cc] at hR'
          omega
      · rw [if_pos q] at hR'
        omega
  · rcases p5 c with w | w
    · unfold RF at hR hR'
      rw [if_pos (by omega)] at hR hR'
      omega
    · unfold RF at hR hR'
      rw [if_neg (by omega), if_neg (by omega), if_pos (by omega)] at hR hR'
      omega
