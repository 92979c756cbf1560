/-- the edge of an end -/
def eg (E : Int → Int) (x : Int) : Int := if E (tr x) < E x then E (tr x) else E x
theorem eg_tr (E : Int → Int) (x : Int) : eg E (tr x) = eg E x := by
  unfold eg
  rw [tr_tr]
  split <;> split <;> omega
/-- edges laid so far -/
def xA (E : Int → Int) (k : Int) : Int → Int := fun x => if (x / 4 % 4 < x % 4 ∧ x < k) ∨ (x % 4 < x / 4 % 4 ∧ tr x < k) then eg E x else -1
def dP (E : Int → Int) (nm x : Int) : Prop := x / 4 % 4 < x % 4 ∧ eg E x = nm
noncomputable def dA (E : Int → Int) (k : Int) : Int → Int := fun nm => ct (dP E nm) k.toNat
def cP (E : Int → Int) (x : Int) : Prop := x / 4 % 4 < x % 4 ∧ eg E x = x
def fP (E G : Int → Int) (k f nm : Int) : Prop := ∃ x g, 0 ≤ x ∧ 0 ≤ g ∧ g < 4 ∧ (x < k ∨ (x = k ∧ g < f)) ∧ x / 4 % 4 < x % 4 ∧ eg E x = nm ∧ g ≠ x / 4 % 4 ∧ g ≠ x % 4 ∧ G (4 * (x / 16) + g) < 0
noncomputable def fA (E G : Int → Int) (k f : Int) : Int → Int := fun nm => @ite _ (fP E G k f nm) (Classical.propDecidable _) 1 0
theorem tr_o {t x : Int} (h : oE t x) : oE t (tr x) := by
  obtain ⟨a, b, c⟩ := tr_p x
  obtain ⟨h0, h1, h2⟩ := h
  have d0 : 0 ≤ tr x / 16 := by rw [a]; omega
  have d1 : tr x / 16 < t := by rw [a]; omega
  have d2 : tr x / 4 % 4 ≠ tr x % 4 := by rw [b, c]; exact fun z => h2 z.symm
  clear a b c
  exact ⟨by omega, by omega, d2⟩
theorem xA_s {E : Int → Int} {k : Int} (h : k / 4 % 4 < k % 4) : uf (uf (xA E k) k (eg E k)) (tr k) (eg E k) = xA E (k + 1) := by
  funext x
  have hp := tr_p x
  unfold xA
  by_cases e : x = tr k
  · have hx : tr x = k := by rw [e, tr_tr]
    have hq := tr_p k
    rw [e, uf_s, if_pos (Or.inr ⟨by omega, by rw [tr_tr]; omega⟩), eg_tr]
  · rw [uf_n e]
    have ne : tr x ≠ k := fun z => e (by rw [← z, tr_tr])
    by_cases e2 : x = k
    · rw [e2, uf_s, if_pos (Or.inl ⟨h, by omega⟩)]
    · rw [uf_n e2]
      by_cases c : (x / 4 % 4 < x % 4 ∧ x < k) ∨ (x % 4 < x / 4 % 4 ∧ tr x < k)
      · rw [if_pos c, if_pos (by omega)]
      · rw [if_neg c, if_neg (by omega)]
theorem xA_n {E : Int → Int} {k : Int} (h : ¬ k / 4 % 4 < k % 4) : xA E (k + 1) = xA E k := by
  funext x
  have hp := tr_p x
  unfold xA
  by_cases c : (x / 4 % 4 < x % 4 ∧ x < k) ∨ (x % 4 < x / 4 % 4 ∧ tr x < k)
  · rw [if_pos c, if_pos (by omega)]
  · rw [if_neg c, if_neg (fun z => ?_)]
    rcases z with z | z
    · have : x ≠ k := fun y => by rw [y] at z; omega
      omega
    · have : tr x ≠ k := fun y => by rw [y] at hp; omega
      omega
theorem dA_s {E : Int → Int} {k : Int} (k0 : 0 ≤ k) (h : k / 4 % 4 < k % 4) : uf (dA E k) (eg E k) (dA E k (eg E k) + 1) = dA E (k + 1) := by
  funext nm
  unfold dA
  by_cases e : nm = eg E k
  · rw [e, uf_s, ct_y k0 ⟨h, rfl⟩]
  · rw [uf_n e, ct_n k0 (fun z => e z.2.symm)]
theorem dA_n {E : Int → Int} {k : Int} (k0 : 0 ≤ k) (h : ¬ k / 4 % 4 < k % 4) : dA E (k + 1) = dA E k := by
  funext nm
  unfold dA
  rw [ct_n k0 (fun z => h z.1)]
theorem fA_4 {E G : Int → Int} {k : Int} : fA E G k 4 = fA E G (k + 1) 0 := by
  funext nm
  unfold fA
  have : fP E G k 4 nm ↔ fP E G (k + 1) 0 nm := by
    constructor
    · rintro ⟨x, g, a, b, c, d, e⟩
      exact ⟨x, g, a, b, c, by omega, e⟩
    · rintro ⟨x, g, a, b, c, d, e⟩
      exact ⟨x, g, a, b, c, by omega, e⟩
  by_cases z : fP E G k 4 nm
  · rw [if_pos z, if_pos (this.mp z)]
  · rw [if_neg z, if_neg (fun y => z (this.mpr y))]
theorem fA_n0 {E G : Int → Int} {k : Int} (h : ¬ k / 4 % 4 < k % 4) : fA E G k 0 = fA E G (k + 1) 0 := by
  funext nm
  unfold fA
  have : fP E G k 0 nm ↔ fP E G (k + 1) 0 nm := by
    constructor
    · rintro ⟨x, g, a, b, c, d, e⟩
      exact ⟨x, g, a, b, c, by omega, e⟩
    · rintro ⟨x, g, a, b, c, d, e⟩
      have : x ≠ k := fun y => by rw [y] at e; omega
      exact ⟨x, g, a, b, c, by omega, e⟩
  by_cases z : fP E G k 0 nm
  · rw [if_pos z, if_pos (this.mp z)]
  · rw [if_neg z, if_neg (fun y => z (this.mpr y))]
theorem fA_n {E G : Int → Int} {k f : Int} (h : f = k / 4 % 4 ∨ f = k % 4 ∨ ¬ G (4 * (k / 16) + f) < 0) : fA E G k f = fA E G k (f + 1) := by
  funext nm
  unfold fA
  have : fP E G k f nm ↔ fP E G k (f + 1) nm := by
    constructor
    · rintro ⟨x, g, a, b, c, d, e⟩
      exact ⟨x, g, a, b, c, by omega, e⟩
    · rintro ⟨x, g, a, b, c, d, e1, e2, e3, e4, e5⟩
      refine ⟨x, g, a, b, c, ?_, e1, e2, e3, e4, e5⟩
      rcases d with d | ⟨d1, d2⟩
      · exact Or.inl d
      · refine Or.inr ⟨d1, ?_⟩
        rcases Int.lt_or_eq_of_le (show g ≤ f by omega) with y | y
        · exact y
        · rw [d1, y] at e5
          rw [d1, y] at e3 e4
          omega
  by_cases z : fP E G k f nm
  · rw [if_pos z, if_pos (this.mp z)]
  · rw [if_neg z, if_neg (fun y => z (this.mpr y))]
theorem fA_s {E G : Int → Int} {k f : Int} (k0 : 0 ≤ k) (f0 : 0 ≤ f) (f1 : f < 4) (hk : k / 4 % 4 < k % 4) (h : f ≠ k / 4 % 4) (h2 : f ≠ k % 4) (h3 : G (4 * (k / 16) + f) < 0) : uf (fA E G k f) (eg E k) 1 = fA E G k (f + 1) := by
  funext nm
  by_cases e : nm = eg E k
  · rw [e, uf_s]
    unfold fA
    rw [if_pos ⟨k, f, k0, f0, f1, by omega, hk, rfl, h, h2, h3⟩]
  · rw [uf_n e]
    unfold fA
    have : fP E G k f nm ↔ fP E G k (f + 1) nm := by
      constructor
      · rintro ⟨x, g, a, b, c, d, e⟩
        exact ⟨x, g, a, b, c, by omega, e⟩
      · rintro ⟨x, g, a, b, c, d, e1, e2, e3, e4, e5⟩
        refine ⟨x, g, a, b, c, ?_, e1, e2, e3, e4, e5⟩
        rcases d with d | ⟨d1, d2⟩
        · exact Or.inl d
        · rw [d1] at e2
          exact absurd e2.symm e
    by_cases z : fP E G k f nm
    · rw [if_pos z, if_pos (this.mp z)]
    · rw [if_neg z, if_neg (fun y => z (this.mpr y))]
theorem fA_in (E G : Int → Int) (k f nm : Int) : fA E G k f nm = 0 ∨ fA E G k f nm = 1 := by
  unfold fA
  by_cases z : fP E G k f nm
  · rw [if_pos z]; exact Or.inr rfl
  · rw [if_neg z]; exact Or.inl rfl
theorem nz_1 : bi_nz 1 = 1 := by decide +kernel
set_option maxHeartbeats 4000000 in
theorem l_X7_mE102 {h : ma_H} {b g nx d : Nat} {t : Int} {G E P Z N S q : Int → Int} {pc : Int} {Q : Option ma_V → ma_H → Nat → Prop} (hb : h b = co 8 [vi t, vr g]) (hg : h g = ci 32 G) (nb : b < 44 ∨ 53 < b) (ng : g < 44 ∨ 53 < g) (hG : VG t G) (hE : ∀ x, oE t x → 0 ≤ E x ∧ E x < 128) {k : Int} (h0 : 0 ≤ k) (hk : k < 16 * t) (hu : k / 4 % 4 < k % 4) (KO : ∀ xf : Option ma_V, ma_J none mX7_measureEdges (d + 1) 0 0 151 [some (vr 44), some (vr b), some (vi k), some (vi (k / 4 % 4)), some (vi (k % 4)), some (vi (eg E k)), xf] [] (bh h E (xA E (k + 1)) (dA E (k + 1)) (fA E G (k + 1) 0) P Z N S q (ct (cP E) (k + 1).toNat) pc) nx Q) :
    ∀ (m : Nat) (f : Int), 0 ≤ f → f ≤ 4 → 4 - f < m → ma_J none mX7_measureEdges (d + 1) 0 0 102 [some (vr 44), some (vr b), some (vi k), some (vi (k / 4 % 4)), some (vi (k % 4)), some (vi (eg E k)), some (vi f)] [] (bh h E (xA E (k + 1)) (dA E (k + 1)) (fA E G k f) P Z N S q (ct (cP E) (k + 1).toNat) pc) nx Q := by
  have ht := hG.1
  have he : 0 ≤ eg E k ∧ eg E k < 128 := by
    have a := hE k ⟨h0, hk, by omega⟩
    have hp := tr_p k
    have b := hE (tr k) (tr_o ⟨h0, hk, by omega⟩)
    unfold eg
    split <;> omega
  intro m
  induction m with
  | zero => intro f h0 h1 h2; omega
  | succ m ih =>
    intro f f0 f1 h4
    refine ma_iload dX7_measureEdges_102 rfl ?_
    refine ma_iconst dX7_measureEdges_104 ?_
    refine ma_rcmp_ge 151 dX7_measureEdges_105 rfl (by constructor <;> omega) (by constructor <;> omega) (fun c105 => ?_) (fun c105 => ?_)
    · -- 151
      have e4 : f = 4 := by omega
      rw [e4, fA_4]
      exact KO _
    · -- 108
      refine ma_iload dX7_measureEdges_108 rfl ?_
      refine ma_iload_n dX7_measureEdges_110 rfl ?_
      refine ma_rcmp_eq 145 dX7_measureEdges_111 rfl (by constructor <;> omega) (by constructor <;> omega) (fun c111 => ?_) (fun c111 => ?_)
      · -- 145
        refine ma_iincN dX7_measureEdges_145 rfl (by decide) rfl ?_
        refine ma_goto 102 dX7_measureEdges_148 rfl ?_
        first | (rw [fA_n (by omega)]; exact ih (f + 1) (by omega) (by omega) (by omega)) | (rw [fA_s h0 (by omega) (by omega) hu (by omega) (by omega) (by omega)]; exact ih (f + 1) (by omega) (by omega) (by omega))
      · -- 114
        refine ma_iload dX7_measureEdges_114 rfl ?_
        refine ma_iload dX7_measureEdges_116 rfl ?_
        refine ma_rcmp_eq 145 dX7_measureEdges_118 rfl (by constructor <;> omega) (by constructor <;> omega) (fun c118 => ?_) (fun c118 => ?_)
        · -- 145
          refine ma_iincN dX7_measureEdges_145 rfl (by decide) rfl ?_
          refine ma_goto 102 dX7_measureEdges_148 rfl ?_
          first | (rw [fA_n (by omega)]; exact ih (f + 1) (by omega) (by omega) (by omega)) | (rw [fA_s h0 (by omega) (by omega) hu (by omega) (by omega) (by omega)]; exact ih (f + 1) (by omega) (by omega) (by omega))
        · -- 121
          refine ma_aload_n dX7_measureEdges_121 rfl ?_
          refine ma_getf dX7_measureEdges_122 fX7_75 (by first | exact bh_45 | exact bh_46 | exact bh_47 | exact bh_48 | exact bh_49 | exact bh_50 | exact bh_51 | exact bh_52 | exact bh_53 | exact bh_44 | exact (bh_n (by first | assumption | omega)).trans (by assumption)) (by rfl) ?_
          refine ma_iconst dX7_measureEdges_125 ?_
          refine ma_iload_n dX7_measureEdges_126 rfl ?_
          refine ma_iconst dX7_measureEdges_127 ?_
          refine ma_kshr 16 dX7_measureEdges_128 (by decide) (by constructor <;> omega) ?_
          refine ma_imul dX7_measureEdges_129 ?_
          refine ma_iload dX7_measureEdges_130 rfl ?_
          refine ma_iadd dX7_measureEdges_132 ?_
          refine ma_iald dX7_measureEdges_133 (by first | exact bh_45 | exact bh_46 | exact bh_47 | exact bh_48 | exact bh_49 | exact bh_50 | exact bh_51 | exact bh_52 | exact bh_53 | exact bh_44 | exact (bh_n (by first | assumption | omega)).trans (by assumption)) (by omega) (by omega) (by omega) ?_
          have hgr := hG.2.1 (4 * (k / 16) + f) (by omega) (by omega)
          have hgr2 : -1 ≤ G (4 * (k / 16) + f) ∧ G (4 * (k / 16) + f) < 256 := by
            rcases hgr with z | z <;> omega
          refine ma_rif_ge 145 dX7_measureEdges_134 rfl (by constructor <;> omega) (fun c134 => ?_) (fun c134 => ?_)
          · -- 145
            refine ma_iincN dX7_measureEdges_145 rfl (by decide) rfl ?_
            refine ma_goto 102 dX7_measureEdges_148 rfl ?_
            first | (rw [fA_n (by omega)]; exact ih (f + 1) (by omega) (by omega) (by omega)) | (rw [fA_s h0 (by omega) (by omega) hu (by omega) (by omega) (by omega)]; exact ih (f + 1) (by omega) (by omega) (by omega))
          · -- 137
            refine ma_aload_n dX7_measureEdges_137 rfl ?_
            refine ma_getf dX7_measureEdges_138 fX7_21 (by first | exact bh_45 | exact bh_46 | exact bh_47 | exact bh_48 | exact bh_49 | exact bh_50 | exact bh_51 | exact bh_52 | exact bh_53 | exact bh_44 | exact (bh_n (by first | assumption | omega)).trans (by assumption)) (by rfl) ?_
            refine ma_iload dX7_measureEdges_141 rfl ?_
            refine ma_iconst dX7_measureEdges_143 ?_
            refine ma_zast dX7_measureEdges_144 (by first | exact bh_45 | exact bh_46 | exact bh_47 | exact bh_48 | exact bh_49 | exact bh_50 | exact bh_51 | exact bh_52 | exact bh_53 | exact bh_44 | exact (bh_n (by first | assumption | omega)).trans (by assumption)) (by omega) (by omega) (by omega) ?_
            rw [nz_1, bh_p48]
            refine ma_iincN dX7_measureEdges_145 rfl (by decide) rfl ?_
            refine ma_goto 102 dX7_measureEdges_148 rfl ?_
            first | (rw [fA_n (by omega)]; exact ih (f + 1) (by omega) (by omega) (by omega)) | (rw [fA_s h0 (by omega) (by omega) hu (by omega) (by omega) (by omega)]; exact ih (f + 1) (by omega) (by omega) (by omega))
set_option maxHeartbeats 4000000 in
theorem l_X7_mE2 {h : ma_H} {b g nx d : Nat} {t : Int} {G E P Z N S q : Int → Int} {pc : Int} {Q : Option ma_V → ma_H → Nat → Prop} (hb : h b = co 8 [vi t, vr g]) (hg : h g = ci 32 G) (nb : b < 44 ∨ 53 < b) (ng : g < 44 ∨ 53 < g) (hG : VG t G) (hE : ∀ x, oE t x → 0 ≤ E x ∧ E x < 128) (K : Q none (bh h E (xA E (16 * t)) (dA E (16 * t)) (fA E G (16 * t) 0) P Z N S q (ct (cP E) (16 * t).toNat) pc) nx) :
    ∀ (m : Nat) (k : Int) (x3 x4 x5 x6 : Option ma_V), 0 ≤ k → k ≤ 16 * t → 16 * t - k < m → ma_J none mX7_measureEdges (d + 1) 0 0 2 [some (vr 44), some (vr b), some (vi k), x3, x4, x5, x6] [] (bh h E (xA E k) (dA E k) (fA E G k 0) P Z N S q (ct (cP E) k.toNat) pc) nx Q := by
  have ht := hG.1
  intro m
  induction m with
  | zero => intro k x3 x4 x5 x6 h0 h1 h2; omega
  | succ m ih =>
    intro k x3 x4 x5 x6 h0 h1 h2
    have KO2 : k < 16 * t → ∀ (x3 x4 x5 x6 : Option ma_V), ma_J none mX7_measureEdges (d + 1) 0 0 151 [some (vr 44), some (vr b), some (vi k), x3, x4, x5, x6] [] (bh h E (xA E (k + 1)) (dA E (k + 1)) (fA E G (k + 1) 0) P Z N S q (ct (cP E) (k + 1).toNat) pc) nx Q := by
      intro hk x3 x4 x5 x6
      refine ma_iincN dX7_measureEdges_151 rfl (by decide) rfl ?_
      refine ma_goto 2 dX7_measureEdges_154 rfl ?_
      exact ih (k + 1) _ _ _ _ (by omega) (by omega) (by omega)
    refine ma_iload_n dX7_measureEdges_2 rfl ?_
    refine ma_bipush dX7_measureEdges_3 ?_
    refine ma_aload_n dX7_measureEdges_5 rfl ?_
    refine ma_getf dX7_measureEdges_6 fX7_43 (by first | exact bh_45 | exact bh_46 | exact bh_47 | exact bh_48 | exact bh_49 | exact bh_50 | exact bh_51 | exact bh_52 | exact bh_53 | exact bh_44 | exact (bh_n (by first | assumption | omega)).trans (by assumption)) (by rfl) ?_
    refine ma_imul dX7_measureEdges_9 ?_
    refine ma_rcmp_ge 157 dX7_measureEdges_10 rfl (by constructor <;> omega) (by constructor <;> omega) (fun c10 => ?_) (fun c10 => ?_)
    · -- 157
      have ek : k = 16 * t := by omega
      rw [ek]
      exact ma_vret dX7_measureEdges_157 rfl K
    · -- 13
      refine ma_iload_n dX7_measureEdges_13 rfl ?_
      refine ma_iconst dX7_measureEdges_14 ?_
      refine ma_kshr 4 dX7_measureEdges_15 (by decide) (by constructor <;> omega) ?_
      refine ma_iconst dX7_measureEdges_16 ?_
      refine ma_kand 2 4 dX7_measureEdges_17 (by decide) (by decide +kernel) (by decide) ?_
      refine ma_istore_nN dX7_measureEdges_18 (by decide) rfl ?_
      refine ma_iload_n dX7_measureEdges_19 rfl ?_
      refine ma_iconst dX7_measureEdges_20 ?_
      refine ma_kand 2 4 dX7_measureEdges_21 (by decide) (by decide +kernel) (by decide) ?_
      refine ma_istoreN dX7_measureEdges_22 (by decide) rfl ?_
      refine ma_iload_n dX7_measureEdges_24 rfl ?_
      refine ma_iload dX7_measureEdges_25 rfl ?_
      refine ma_rcmp_lt 33 dX7_measureEdges_27 rfl (by constructor <;> omega) (by constructor <;> omega) (fun c27 => ?_) (fun c27 => ?_)
      · -- 33
        have ha := hE k ⟨h0, by omega, by omega⟩
        have hp := tr_p k
        have htr : 0 ≤ tr k ∧ tr k < 128 := by unfold tr; omega
        have hb2 := hE (tr k) (tr_o ⟨h0, by omega, by omega⟩)
        refine ma_aload_n dX7_measureEdges_33 rfl ?_
        refine ma_getf dX7_measureEdges_34 fX7_11 (by first | exact bh_45 | exact bh_46 | exact bh_47 | exact bh_48 | exact bh_49 | exact bh_50 | exact bh_51 | exact bh_52 | exact bh_53 | exact bh_44 | exact (bh_n (by first | assumption | omega)).trans (by assumption)) (by rfl) ?_
        refine ma_iload_n dX7_measureEdges_37 rfl ?_
        refine ma_iald dX7_measureEdges_38 (by first | exact bh_45 | exact bh_46 | exact bh_47 | exact bh_48 | exact bh_49 | exact bh_50 | exact bh_51 | exact bh_52 | exact bh_53 | exact bh_44 | exact (bh_n (by first | assumption | omega)).trans (by assumption)) (by omega) (by omega) (by omega) ?_
        refine ma_aload_n dX7_measureEdges_39 rfl ?_
        refine ma_getf dX7_measureEdges_40 fX7_11 (by first | exact bh_45 | exact bh_46 | exact bh_47 | exact bh_48 | exact bh_49 | exact bh_50 | exact bh_51 | exact bh_52 | exact bh_53 | exact bh_44 | exact (bh_n (by first | assumption | omega)).trans (by assumption)) (by rfl) ?_
        refine ma_iload_n dX7_measureEdges_43 rfl ?_
        refine ma_cS [_] dX7_measureEdges_44 wX7_turned lX7_81 tX7_turned (Nat.le_of_ble_eq_true rfl) ?_
        refine c_X7_turned (by constructor <;> omega) ?_
        refine ma_iald dX7_measureEdges_47 (by first | exact bh_45 | exact bh_46 | exact bh_47 | exact bh_48 | exact bh_49 | exact bh_50 | exact bh_51 | exact bh_52 | exact bh_53 | exact bh_44 | exact (bh_n (by first | assumption | omega)).trans (by assumption)) (by omega) (by omega) (by omega) ?_
        refine ma_cS [_, _] dX7_measureEdges_48 wJ9_min_7cf53 lX7_85 tJ9_min_7cf53 (Nat.le_of_ble_eq_true rfl) ?_
        refine c_J9_min_7cf53 (by constructor <;> omega) (by constructor <;> omega) ?_
        rw [show (if E (tr k) < E k then E (tr k) else E k) = eg E k from rfl]
        have he : 0 ≤ eg E k ∧ eg E k < 128 := by
          unfold eg
          split <;> omega
        refine ma_istoreN dX7_measureEdges_51 (by decide) rfl ?_
        refine ma_aload_n dX7_measureEdges_53 rfl ?_
        refine ma_getf dX7_measureEdges_54 fX7_15 (by first | exact bh_45 | exact bh_46 | exact bh_47 | exact bh_48 | exact bh_49 | exact bh_50 | exact bh_51 | exact bh_52 | exact bh_53 | exact bh_44 | exact (bh_n (by first | assumption | omega)).trans (by assumption)) (by rfl) ?_
        refine ma_iload_n dX7_measureEdges_57 rfl ?_
        refine ma_iload dX7_measureEdges_58 rfl ?_
        refine ma_iast dX7_measureEdges_60 (by first | exact bh_45 | exact bh_46 | exact bh_47 | exact bh_48 | exact bh_49 | exact bh_50 | exact bh_51 | exact bh_52 | exact bh_53 | exact bh_44 | exact (bh_n (by first | assumption | omega)).trans (by assumption)) (by omega) (by omega) (by omega) ?_
        rw [bh_p46]
        refine ma_aload_n dX7_measureEdges_61 rfl ?_
        refine ma_getf dX7_measureEdges_62 fX7_15 (by first | exact bh_45 | exact bh_46 | exact bh_47 | exact bh_48 | exact bh_49 | exact bh_50 | exact bh_51 | exact bh_52 | exact bh_53 | exact bh_44 | exact (bh_n (by first | assumption | omega)).trans (by assumption)) (by rfl) ?_
        refine ma_iload_n dX7_measureEdges_65 rfl ?_
        refine ma_cS [_] dX7_measureEdges_66 wX7_turned lX7_81 tX7_turned (Nat.le_of_ble_eq_true rfl) ?_
        refine c_X7_turned (by constructor <;> omega) ?_
        refine ma_iload dX7_measureEdges_69 rfl ?_
        refine ma_iast dX7_measureEdges_71 (by first | exact bh_45 | exact bh_46 | exact bh_47 | exact bh_48 | exact bh_49 | exact bh_50 | exact bh_51 | exact bh_52 | exact bh_53 | exact bh_44 | exact (bh_n (by first | assumption | omega)).trans (by assumption)) (by omega) (by omega) (by omega) ?_
        rw [bh_p46, xA_s (by omega)]
        refine ma_aload_n dX7_measureEdges_72 rfl ?_
        refine ma_getf dX7_measureEdges_73 fX7_18 (by first | exact bh_45 | exact bh_46 | exact bh_47 | exact bh_48 | exact bh_49 | exact bh_50 | exact bh_51 | exact bh_52 | exact bh_53 | exact bh_44 | exact (bh_n (by first | assumption | omega)).trans (by assumption)) (by rfl) ?_
        refine ma_iload dX7_measureEdges_76 rfl ?_
        refine ma_dup2 dX7_measureEdges_78 rfl rfl ?_
        refine ma_iald dX7_measureEdges_79 (by first | exact bh_45 | exact bh_46 | exact bh_47 | exact bh_48 | exact bh_49 | exact bh_50 | exact bh_51 | exact bh_52 | exact bh_53 | exact bh_44 | exact (bh_n (by first | assumption | omega)).trans (by assumption)) (by omega) (by omega) (by omega) ?_
        refine ma_iconst dX7_measureEdges_80 ?_
        refine ma_iadd dX7_measureEdges_81 ?_
        refine ma_iast dX7_measureEdges_82 (by first | exact bh_45 | exact bh_46 | exact bh_47 | exact bh_48 | exact bh_49 | exact bh_50 | exact bh_51 | exact bh_52 | exact bh_53 | exact bh_44 | exact (bh_n (by first | assumption | omega)).trans (by assumption)) (by omega) (by omega) (by omega) ?_
        rw [bh_p47, dA_s h0 (by omega)]
        refine ma_iload dX7_measureEdges_83 rfl ?_
        refine ma_iload_n dX7_measureEdges_85 rfl ?_
        refine ma_rcmp_ne 99 dX7_measureEdges_86 rfl (by constructor <;> omega) (by constructor <;> omega) (fun c86 => ?_) (fun c86 => ?_)
        · -- 99
          refine ma_iconst dX7_measureEdges_99 ?_
          refine ma_istoreN dX7_measureEdges_100 (by decide) rfl ?_
          rw [← ct_n (P := cP E) h0 (fun z => c86 z.2)]
          exact l_X7_mE102 hb hg nb ng hG hE h0 (by omega) (by omega) (fun xf => KO2 (by omega) _ _ _ _) 5 0 (by omega) (by omega) (by omega)
        · -- 89
          refine ma_aload_n dX7_measureEdges_89 rfl ?_
          refine ma_dup dX7_measureEdges_90 rfl ?_
          refine ma_getf dX7_measureEdges_91 fX7_69 (by first | exact bh_45 | exact bh_46 | exact bh_47 | exact bh_48 | exact bh_49 | exact bh_50 | exact bh_51 | exact bh_52 | exact bh_53 | exact bh_44 | exact (bh_n (by first | assumption | omega)).trans (by assumption)) (by rfl) ?_
          refine ma_iconst dX7_measureEdges_94 ?_
          refine ma_iadd dX7_measureEdges_95 ?_
          refine ma_puti dX7_measureEdges_96 fX7_69 (by first | exact bh_45 | exact bh_46 | exact bh_47 | exact bh_48 | exact bh_49 | exact bh_50 | exact bh_51 | exact bh_52 | exact bh_53 | exact bh_44 | exact (bh_n (by first | assumption | omega)).trans (by assumption)) (Nat.le_of_ble_eq_true rfl) ?_
          rw [show ([vr 45, vr 46, vr 47, vr 48, vr 49, vr 50, vr 51, vr 52, vi (ct (cP E) k.toNat), vi pc, vr 53] : List ma_V).set 8 (vi (ct (cP E) k.toNat + 1)) = [vr 45, vr 46, vr 47, vr 48, vr 49, vr 50, vr 51, vr 52, vi (ct (cP E) k.toNat + 1), vi pc, vr 53] from rfl, bh_p44, ← ct_y (P := cP E) h0 ⟨by omega, by omega⟩]
          refine ma_iconst dX7_measureEdges_99 ?_
          refine ma_istoreN dX7_measureEdges_100 (by decide) rfl ?_
          exact l_X7_mE102 hb hg nb ng hG hE h0 (by omega) (by omega) (fun xf => KO2 (by omega) _ _ _ _) 5 0 (by omega) (by omega) (by omega)
      · -- 30
        refine ma_goto 151 dX7_measureEdges_30 rfl ?_
        rw [fA_n0 (by omega), ← xA_n (by omega), ← dA_n h0 (by omega), ← ct_n (P := cP E) h0 (fun z => by have := z.1; omega)]
        exact KO2 (by omega) _ _ _ _ 
theorem xA_0 {E : Int → Int} {x : Int} (h0 : 0 ≤ x) : xA E 0 x = -1 := by
  unfold xA
  have : 0 ≤ tr x := by unfold tr; omega
  rw [if_neg (by omega)]
theorem fA_0 {E G : Int → Int} {x : Int} : fA E G 0 0 x = 0 := by
  unfold fA
  rw [if_neg (by rintro ⟨y, g, a, b, c, d, e⟩; omega)]
theorem c_X7_measureEdges {h : ma_H} {b g nx d : Nat} {t : Int} {G E P Z N S q : Int → Int} {pc : Int} {Q : Option ma_V → ma_H → Nat → Prop} (hb : h b = co 8 [vi t, vr g]) (hg : h g = ci 32 G) (nb : b < 44 ∨ 53 < b) (ng : g < 44 ∨ 53 < g) (hG : VG t G) (hE : ∀ x, oE t x → 0 ≤ E x ∧ E x < 128) (K : Q none (bh h E (xA E (16 * t)) (dA E (16 * t)) (fA E G (16 * t) 0) P Z N S q (ct (cP E) (16 * t).toNat) pc) nx) : ma_Ct mX7_measureEdges (d + 1) 0 0 [vr 44, vr b] (bh h E (fun _ => -1) (fun _ => 0) (fun _ => 0) P Z N S q 0 pc) nx Q := by
  have ht := hG.1
  refine ma_Ct.of (by decide +kernel) (Nat.le_of_ble_eq_true rfl) ?_
  refine ma_ext (xA E 0) bh_46 (fun j j0 j1 => by rw [xA_0 j0]) ?_
  rw [bh_p46]
  rw [show (fun _ => 0 : Int → Int) = dA E 0 from by funext x; rfl]
  rw [show bh h E (xA E 0) (dA E 0) (dA E 0) P Z N S q 0 pc = bh h E (xA E 0) (dA E 0) (fA E G 0 0) P Z N S q (ct (cP E) (0 : Int).toNat) pc from by rw [show dA E 0 = fA E G 0 0 from by funext x; rw [fA_0]; rfl]; rfl]
  refine ma_iconst dX7_measureEdges_0 ?_
  refine ma_istore_nN dX7_measureEdges_1 (by decide) rfl ?_
  exact l_X7_mE2 hb hg nb ng hG hE K 130 0 _ _ _ _ (by omega) (by omega) (by omega)
