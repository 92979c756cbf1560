def zP (P : Int → Int) (nm c : Int) : Prop := P c = nm
noncomputable def zA (P : Int → Int) (k : Int) : Int → Int := fun nm => ct (zP P nm) k.toNat
def qP (P : Int → Int) (c : Int) : Prop := P c = c
/-- free sides at corners of a point: y is 4 times a corner and a face -/
def sP (P G : Int → Int) (nm y : Int) : Prop := P (y / 4) = nm ∧ y % 4 ≠ y / 4 % 4 ∧ G (4 * (y / 16) + y % 4) < 0
noncomputable def sA (P G : Int → Int) (y : Int) : Int → Int := fun nm => ct (sP P G nm) y.toNat
def nP (P E : Int → Int) (nm y : Int) : Prop := P (y / 4) = nm ∧ E y = y
noncomputable def nA (P E : Int → Int) (y : Int) : Int → Int := fun nm => ct (nP P E nm) y.toNat
theorem zA_s {P : Int → Int} {k : Int} (k0 : 0 ≤ k) : uf (zA P k) (P k) (zA P k (P k) + 1) = zA P (k + 1) := by
  funext nm
  unfold zA
  by_cases e : nm = P k
  · rw [e, uf_s, ct_y (P := zP P (P k)) k0 rfl]
  · rw [uf_n e, ct_n (P := zP P nm) k0 (fun z => e z.symm)]
theorem sA_s {P G : Int → Int} {k f : Int} (k0 : 0 ≤ k) (f0 : 0 ≤ f) (f1 : f < 4) (h : f ≠ k % 4) (h2 : G (4 * (k / 4) + f) < 0) : uf (sA P G (4 * k + f)) (P k) (sA P G (4 * k + f) (P k) + 1) = sA P G (4 * k + (f + 1)) := by
  have e1 : (4 * k + f) / 4 = k := by omega
  have e2 : (4 * k + f) % 4 = f := by omega
  have e3 : (4 * k + f) / 16 = k / 4 := by omega
  funext nm
  unfold sA
  rw [show 4 * k + (f + 1) = 4 * k + f + 1 by omega]
  by_cases e : nm = P k
  · rw [e, uf_s, ct_y (by omega) (by unfold sP; rw [e1, e2, e3]; exact ⟨rfl, h, h2⟩)]
  · rw [uf_n e, ct_n (by omega) (by unfold sP; rw [e1]; exact fun z => e z.1.symm)]
theorem sA_n {P G : Int → Int} {k f : Int} (k0 : 0 ≤ k) (f0 : 0 ≤ f) (f1 : f < 4) (h : f = k % 4 ∨ ¬ G (4 * (k / 4) + f) < 0) : sA P G (4 * k + f) = sA P G (4 * k + (f + 1)) := by
  have e1 : (4 * k + f) / 4 = k := by omega
  have e2 : (4 * k + f) % 4 = f := by omega
  have e3 : (4 * k + f) / 16 = k / 4 := by omega
  funext nm
  unfold sA
  rw [show 4 * k + (f + 1) = 4 * k + f + 1 by omega, ct_n (by omega) (by unfold sP; rw [e1, e2, e3]; intro z; rcases h with h | h; exact z.2.1 h; exact h z.2.2)]
theorem nA_s {P E : Int → Int} {k f : Int} (k0 : 0 ≤ k) (f0 : 0 ≤ f) (f1 : f < 4) (h : E (4 * k + f) = 4 * k + f) : uf (nA P E (4 * k + f)) (P k) (nA P E (4 * k + f) (P k) + 1) = nA P E (4 * k + (f + 1)) := by
  have e1 : (4 * k + f) / 4 = k := by omega
  funext nm
  unfold nA
  rw [show 4 * k + (f + 1) = 4 * k + f + 1 by omega]
  by_cases e : nm = P k
  · rw [e, uf_s, ct_y (by omega) (by unfold nP; rw [e1]; exact ⟨rfl, h⟩)]
  · rw [uf_n e, ct_n (by omega) (by unfold nP; rw [e1]; exact fun z => e z.1.symm)]
theorem nA_n {P E : Int → Int} {k f : Int} (k0 : 0 ≤ k) (f0 : 0 ≤ f) (f1 : f < 4) (h : E (4 * k + f) ≠ 4 * k + f) : nA P E (4 * k + f) = nA P E (4 * k + (f + 1)) := by
  funext nm
  unfold nA
  rw [show 4 * k + (f + 1) = 4 * k + f + 1 by omega, ct_n (by omega) (by unfold nP; exact fun z => h z.2)]
set_option maxHeartbeats 4000000 in
theorem l_X7_mP47 {h : ma_H} {b g nx d : Nat} {t : Int} {G E X D F P q : Int → Int} {ec : Int} {Q : Option ma_V → ma_H → Nat → Prop} (hb : h b = co 8 [vi t, vr g]) (hg : h g = ci 32 G) (nb : b < 44 ∨ 53 < b) (ng : g < 44 ∨ 53 < g) (hG : VG t G) (hE : ∀ x, 0 ≤ x → x < 128 → -1 ≤ E x ∧ E x < 128) (hP : ∀ x, oC t x → 0 ≤ P x ∧ P x < 32) {k : Int} (h0 : 0 ≤ k) (hk : k < 4 * t) (KO : ∀ xf : Option ma_V, ma_J none mX7_measurePoints d 0 0 122 [some (vr 44), some (vr b), some (vi k), some (vi (P k)), xf] [] (bh h E X D F P (zA P (k + 1)) (nA P E (4 * (k + 1))) (sA P G (4 * (k + 1))) q ec (ct (qP P) (k + 1).toNat)) nx Q) :
    ∀ (m : Nat) (f : Int), 0 ≤ f → f ≤ 4 → 4 - f < m → ma_J none mX7_measurePoints d 0 0 47 [some (vr 44), some (vr b), some (vi k), some (vi (P k)), some (vi f)] [] (bh h E X D F P (zA P (k + 1)) (nA P E (4 * k + f)) (sA P G (4 * k + f)) q ec (ct (qP P) (k + 1).toNat)) nx Q := by
  have ht := hG.1
  have hp := hP k ⟨h0, hk⟩
  intro m
  induction m with
  | zero => intro f h0 h1 h2; omega
  | succ m ih =>
    intro f f0 f1 h4
    refine ma_iload dX7_measurePoints_47 rfl ?_
    refine ma_iconst dX7_measurePoints_49 ?_
    refine ma_rcmp_ge 122 dX7_measurePoints_50 rfl (by constructor <;> omega) (by constructor <;> omega) (fun c50 => ?_) (fun c50 => ?_)
    · -- 122
      have e4 : f = 4 := by omega
      rw [e4, show 4 * k + 4 = 4 * (k + 1) by omega]
      exact KO _
    · -- 53
      refine ma_iload dX7_measurePoints_53 rfl ?_
      refine ma_iload_n dX7_measurePoints_55 rfl ?_
      refine ma_iconst dX7_measurePoints_56 ?_
      refine ma_kand 2 4 dX7_measurePoints_57 (by decide) (by decide +kernel) (by decide) ?_
      refine ma_rcmp_eq 86 dX7_measurePoints_58 rfl (by constructor <;> omega) (by constructor <;> omega) (fun c58 => ?_) (fun c58 => ?_)
      · -- 86
        try rw [sA_n h0 f0 (by omega) (by omega)]
        refine ma_aload_n dX7_measurePoints_86 rfl ?_
        refine ma_getf dX7_measurePoints_87 fX7_11 (by first | exact bh_45 | exact bh_46 | exact bh_47 | exact bh_48 | exact bh_49 | exact bh_50 | exact bh_51 | exact bh_52 | exact bh_53 | exact bh_44 | exact (bh_n (by first | assumption | omega)).trans (by assumption)) (by rfl) ?_
        refine ma_iconst dX7_measurePoints_90 ?_
        refine ma_iload_n dX7_measurePoints_91 rfl ?_
        refine ma_imul dX7_measurePoints_92 ?_
        refine ma_iload dX7_measurePoints_93 rfl ?_
        refine ma_iadd dX7_measurePoints_95 ?_
        refine ma_iald dX7_measurePoints_96 (by first | exact bh_45 | exact bh_46 | exact bh_47 | exact bh_48 | exact bh_49 | exact bh_50 | exact bh_51 | exact bh_52 | exact bh_53 | exact bh_44 | exact (bh_n (by first | assumption | omega)).trans (by assumption)) (by omega) (by omega) (by omega) ?_
        have hy := hE (4 * k + f) (by omega) (by omega)
        refine ma_iconst dX7_measurePoints_97 ?_
        refine ma_iload_n dX7_measurePoints_98 rfl ?_
        refine ma_imul dX7_measurePoints_99 ?_
        refine ma_iload dX7_measurePoints_100 rfl ?_
        refine ma_iadd dX7_measurePoints_102 ?_
        refine ma_rcmp_ne 116 dX7_measurePoints_103 rfl (by constructor <;> omega) (by constructor <;> omega) (fun c103 => ?_) (fun c103 => ?_)
        · -- 116
          try rw [nA_n h0 f0 (by omega) (by omega)]
          refine ma_iincN dX7_measurePoints_116 rfl (by decide) rfl ?_
          refine ma_goto 47 dX7_measurePoints_119 rfl ?_
          exact ih (f + 1) (by omega) (by omega) (by omega)
        · -- 106
          refine ma_aload_n dX7_measurePoints_106 rfl ?_
          refine ma_getf dX7_measurePoints_107 fX7_31 (by first | exact bh_45 | exact bh_46 | exact bh_47 | exact bh_48 | exact bh_49 | exact bh_50 | exact bh_51 | exact bh_52 | exact bh_53 | exact bh_44 | exact (bh_n (by first | assumption | omega)).trans (by assumption)) (by rfl) ?_
          refine ma_iload_n dX7_measurePoints_110 rfl ?_
          refine ma_dup2 dX7_measurePoints_111 rfl rfl ?_
          refine ma_iald dX7_measurePoints_112 (by first | exact bh_45 | exact bh_46 | exact bh_47 | exact bh_48 | exact bh_49 | exact bh_50 | exact bh_51 | exact bh_52 | exact bh_53 | exact bh_44 | exact (bh_n (by first | assumption | omega)).trans (by assumption)) (by omega) (by omega) (by omega) ?_
          refine ma_iconst dX7_measurePoints_113 ?_
          refine ma_iadd dX7_measurePoints_114 ?_
          refine ma_iast dX7_measurePoints_115 (by first | exact bh_45 | exact bh_46 | exact bh_47 | exact bh_48 | exact bh_49 | exact bh_50 | exact bh_51 | exact bh_52 | exact bh_53 | exact bh_44 | exact (bh_n (by first | assumption | omega)).trans (by assumption)) (by omega) (by omega) (by omega) ?_
          rw [bh_p51, nA_s h0 f0 (by omega) (by omega)]
          try rw [nA_n h0 f0 (by omega) (by omega)]
          refine ma_iincN dX7_measurePoints_116 rfl (by decide) rfl ?_
          refine ma_goto 47 dX7_measurePoints_119 rfl ?_
          exact ih (f + 1) (by omega) (by omega) (by omega)
      · -- 61
        refine ma_aload_n dX7_measurePoints_61 rfl ?_
        refine ma_getf dX7_measurePoints_62 fX7_75 (by first | exact bh_45 | exact bh_46 | exact bh_47 | exact bh_48 | exact bh_49 | exact bh_50 | exact bh_51 | exact bh_52 | exact bh_53 | exact bh_44 | exact (bh_n (by first | assumption | omega)).trans (by assumption)) (by rfl) ?_
        refine ma_iload_n dX7_measurePoints_65 rfl ?_
        refine ma_bipush dX7_measurePoints_66 ?_
        refine ma_iand dX7_measurePoints_68 ?_
        rw [tr_28 h0 (by omega)]
        refine ma_iload dX7_measurePoints_69 rfl ?_
        refine ma_iadd dX7_measurePoints_71 ?_
        refine ma_iald dX7_measurePoints_72 (by first | exact bh_45 | exact bh_46 | exact bh_47 | exact bh_48 | exact bh_49 | exact bh_50 | exact bh_51 | exact bh_52 | exact bh_53 | exact bh_44 | exact (bh_n (by first | assumption | omega)).trans (by assumption)) (by omega) (by omega) (by omega) ?_
        have hgr := hG.2.1 (4 * (k / 4) + f) (by omega) (by omega)
        have hgr2 : -1 ≤ G (4 * (k / 4) + f) ∧ G (4 * (k / 4) + f) < 256 := by
          rcases hgr with z | z <;> omega
        refine ma_rif_ge 86 dX7_measurePoints_73 rfl (by constructor <;> omega) (fun c73 => ?_) (fun c73 => ?_)
        · -- 86
          try rw [sA_n h0 f0 (by omega) (by omega)]
          refine ma_aload_n dX7_measurePoints_86 rfl ?_
          refine ma_getf dX7_measurePoints_87 fX7_11 (by first | exact bh_45 | exact bh_46 | exact bh_47 | exact bh_48 | exact bh_49 | exact bh_50 | exact bh_51 | exact bh_52 | exact bh_53 | exact bh_44 | exact (bh_n (by first | assumption | omega)).trans (by assumption)) (by rfl) ?_
          refine ma_iconst dX7_measurePoints_90 ?_
          refine ma_iload_n dX7_measurePoints_91 rfl ?_
          refine ma_imul dX7_measurePoints_92 ?_
          refine ma_iload dX7_measurePoints_93 rfl ?_
          refine ma_iadd dX7_measurePoints_95 ?_
          refine ma_iald dX7_measurePoints_96 (by first | exact bh_45 | exact bh_46 | exact bh_47 | exact bh_48 | exact bh_49 | exact bh_50 | exact bh_51 | exact bh_52 | exact bh_53 | exact bh_44 | exact (bh_n (by first | assumption | omega)).trans (by assumption)) (by omega) (by omega) (by omega) ?_
          have hy := hE (4 * k + f) (by omega) (by omega)
          refine ma_iconst dX7_measurePoints_97 ?_
          refine ma_iload_n dX7_measurePoints_98 rfl ?_
          refine ma_imul dX7_measurePoints_99 ?_
          refine ma_iload dX7_measurePoints_100 rfl ?_
          refine ma_iadd dX7_measurePoints_102 ?_
          refine ma_rcmp_ne 116 dX7_measurePoints_103 rfl (by constructor <;> omega) (by constructor <;> omega) (fun c103 => ?_) (fun c103 => ?_)
          · -- 116
            try rw [nA_n h0 f0 (by omega) (by omega)]
            refine ma_iincN dX7_measurePoints_116 rfl (by decide) rfl ?_
            refine ma_goto 47 dX7_measurePoints_119 rfl ?_
            exact ih (f + 1) (by omega) (by omega) (by omega)
          · -- 106
            refine ma_aload_n dX7_measurePoints_106 rfl ?_
            refine ma_getf dX7_measurePoints_107 fX7_31 (by first | exact bh_45 | exact bh_46 | exact bh_47 | exact bh_48 | exact bh_49 | exact bh_50 | exact bh_51 | exact bh_52 | exact bh_53 | exact bh_44 | exact (bh_n (by first | assumption | omega)).trans (by assumption)) (by rfl) ?_
            refine ma_iload_n dX7_measurePoints_110 rfl ?_
            refine ma_dup2 dX7_measurePoints_111 rfl rfl ?_
            refine ma_iald dX7_measurePoints_112 (by first | exact bh_45 | exact bh_46 | exact bh_47 | exact bh_48 | exact bh_49 | exact bh_50 | exact bh_51 | exact bh_52 | exact bh_53 | exact bh_44 | exact (bh_n (by first | assumption | omega)).trans (by assumption)) (by omega) (by omega) (by omega) ?_
            refine ma_iconst dX7_measurePoints_113 ?_
            refine ma_iadd dX7_measurePoints_114 ?_
            refine ma_iast dX7_measurePoints_115 (by first | exact bh_45 | exact bh_46 | exact bh_47 | exact bh_48 | exact bh_49 | exact bh_50 | exact bh_51 | exact bh_52 | exact bh_53 | exact bh_44 | exact (bh_n (by first | assumption | omega)).trans (by assumption)) (by omega) (by omega) (by omega) ?_
            rw [bh_p51, nA_s h0 f0 (by omega) (by omega)]
            try rw [nA_n h0 f0 (by omega) (by omega)]
            refine ma_iincN dX7_measurePoints_116 rfl (by decide) rfl ?_
            refine ma_goto 47 dX7_measurePoints_119 rfl ?_
            exact ih (f + 1) (by omega) (by omega) (by omega)
        · -- 76
          refine ma_aload_n dX7_measurePoints_76 rfl ?_
          refine ma_getf dX7_measurePoints_77 fX7_34 (by first | exact bh_45 | exact bh_46 | exact bh_47 | exact bh_48 | exact bh_49 | exact bh_50 | exact bh_51 | exact bh_52 | exact bh_53 | exact bh_44 | exact (bh_n (by first | assumption | omega)).trans (by assumption)) (by rfl) ?_
          refine ma_iload_n dX7_measurePoints_80 rfl ?_
          refine ma_dup2 dX7_measurePoints_81 rfl rfl ?_
          refine ma_iald dX7_measurePoints_82 (by first | exact bh_45 | exact bh_46 | exact bh_47 | exact bh_48 | exact bh_49 | exact bh_50 | exact bh_51 | exact bh_52 | exact bh_53 | exact bh_44 | exact (bh_n (by first | assumption | omega)).trans (by assumption)) (by omega) (by omega) (by omega) ?_
          refine ma_iconst dX7_measurePoints_83 ?_
          refine ma_iadd dX7_measurePoints_84 ?_
          refine ma_iast dX7_measurePoints_85 (by first | exact bh_45 | exact bh_46 | exact bh_47 | exact bh_48 | exact bh_49 | exact bh_50 | exact bh_51 | exact bh_52 | exact bh_53 | exact bh_44 | exact (bh_n (by first | assumption | omega)).trans (by assumption)) (by omega) (by omega) (by omega) ?_
          rw [bh_p52, sA_s h0 f0 (by omega) (by omega) (by omega)]
          try rw [sA_n h0 f0 (by omega) (by omega)]
          refine ma_aload_n dX7_measurePoints_86 rfl ?_
          refine ma_getf dX7_measurePoints_87 fX7_11 (by first | exact bh_45 | exact bh_46 | exact bh_47 | exact bh_48 | exact bh_49 | exact bh_50 | exact bh_51 | exact bh_52 | exact bh_53 | exact bh_44 | exact (bh_n (by first | assumption | omega)).trans (by assumption)) (by rfl) ?_
          refine ma_iconst dX7_measurePoints_90 ?_
          refine ma_iload_n dX7_measurePoints_91 rfl ?_
          refine ma_imul dX7_measurePoints_92 ?_
          refine ma_iload dX7_measurePoints_93 rfl ?_
          refine ma_iadd dX7_measurePoints_95 ?_
          refine ma_iald dX7_measurePoints_96 (by first | exact bh_45 | exact bh_46 | exact bh_47 | exact bh_48 | exact bh_49 | exact bh_50 | exact bh_51 | exact bh_52 | exact bh_53 | exact bh_44 | exact (bh_n (by first | assumption | omega)).trans (by assumption)) (by omega) (by omega) (by omega) ?_
          have hy := hE (4 * k + f) (by omega) (by omega)
          refine ma_iconst dX7_measurePoints_97 ?_
          refine ma_iload_n dX7_measurePoints_98 rfl ?_
          refine ma_imul dX7_measurePoints_99 ?_
          refine ma_iload dX7_measurePoints_100 rfl ?_
          refine ma_iadd dX7_measurePoints_102 ?_
          refine ma_rcmp_ne 116 dX7_measurePoints_103 rfl (by constructor <;> omega) (by constructor <;> omega) (fun c103 => ?_) (fun c103 => ?_)
          · -- 116
            try rw [nA_n h0 f0 (by omega) (by omega)]
            refine ma_iincN dX7_measurePoints_116 rfl (by decide) rfl ?_
            refine ma_goto 47 dX7_measurePoints_119 rfl ?_
            exact ih (f + 1) (by omega) (by omega) (by omega)
          · -- 106
            refine ma_aload_n dX7_measurePoints_106 rfl ?_
            refine ma_getf dX7_measurePoints_107 fX7_31 (by first | exact bh_45 | exact bh_46 | exact bh_47 | exact bh_48 | exact bh_49 | exact bh_50 | exact bh_51 | exact bh_52 | exact bh_53 | exact bh_44 | exact (bh_n (by first | assumption | omega)).trans (by assumption)) (by rfl) ?_
            refine ma_iload_n dX7_measurePoints_110 rfl ?_
            refine ma_dup2 dX7_measurePoints_111 rfl rfl ?_
            refine ma_iald dX7_measurePoints_112 (by first | exact bh_45 | exact bh_46 | exact bh_47 | exact bh_48 | exact bh_49 | exact bh_50 | exact bh_51 | exact bh_52 | exact bh_53 | exact bh_44 | exact (bh_n (by first | assumption | omega)).trans (by assumption)) (by omega) (by omega) (by omega) ?_
            refine ma_iconst dX7_measurePoints_113 ?_
            refine ma_iadd dX7_measurePoints_114 ?_
            refine ma_iast dX7_measurePoints_115 (by first | exact bh_45 | exact bh_46 | exact bh_47 | exact bh_48 | exact bh_49 | exact bh_50 | exact bh_51 | exact bh_52 | exact bh_53 | exact bh_44 | exact (bh_n (by first | assumption | omega)).trans (by assumption)) (by omega) (by omega) (by omega) ?_
            rw [bh_p51, nA_s h0 f0 (by omega) (by omega)]
            try rw [nA_n h0 f0 (by omega) (by omega)]
            refine ma_iincN dX7_measurePoints_116 rfl (by decide) rfl ?_
            refine ma_goto 47 dX7_measurePoints_119 rfl ?_
            exact ih (f + 1) (by omega) (by omega) (by omega)
set_option maxHeartbeats 4000000 in
theorem l_X7_mP2 {h : ma_H} {b g nx d : Nat} {t : Int} {G E X D F P q : Int → Int} {ec : Int} {Q : Option ma_V → ma_H → Nat → Prop} (hb : h b = co 8 [vi t, vr g]) (hg : h g = ci 32 G) (nb : b < 44 ∨ 53 < b) (ng : g < 44 ∨ 53 < g) (hG : VG t G) (hE : ∀ x, 0 ≤ x → x < 128 → -1 ≤ E x ∧ E x < 128) (hP : ∀ x, oC t x → 0 ≤ P x ∧ P x < 32) (K : Q none (bh h E X D F P (zA P (4 * t)) (nA P E (16 * t)) (sA P G (16 * t)) q ec (ct (qP P) (4 * t).toNat)) nx) :
    ∀ (m : Nat) (k : Int) (x3 x4 : Option ma_V), 0 ≤ k → k ≤ 4 * t → 4 * t - k < m → ma_J none mX7_measurePoints d 0 0 2 [some (vr 44), some (vr b), some (vi k), x3, x4] [] (bh h E X D F P (zA P k) (nA P E (4 * k)) (sA P G (4 * k)) q ec (ct (qP P) k.toNat)) nx Q := by
  have ht := hG.1
  intro m
  induction m with
  | zero => intro k x3 x4 h0 h1 h2; omega
  | succ m ih =>
    intro k x3 x4 h0 h1 h2
    have KO2 : k < 4 * t → ∀ (x3 x4 : Option ma_V), ma_J none mX7_measurePoints d 0 0 122 [some (vr 44), some (vr b), some (vi k), x3, x4] [] (bh h E X D F P (zA P (k + 1)) (nA P E (4 * (k + 1))) (sA P G (4 * (k + 1))) q ec (ct (qP P) (k + 1).toNat)) nx Q := by
      intro hk x3 x4
      refine ma_iincN dX7_measurePoints_122 rfl (by decide) rfl ?_
      refine ma_goto 2 dX7_measurePoints_125 rfl ?_
      exact ih (k + 1) _ _ (by omega) (by omega) (by omega)
    refine ma_iload_n dX7_measurePoints_2 rfl ?_
    refine ma_iconst dX7_measurePoints_3 ?_
    refine ma_aload_n dX7_measurePoints_4 rfl ?_
    refine ma_getf dX7_measurePoints_5 fX7_43 (by first | exact bh_45 | exact bh_46 | exact bh_47 | exact bh_48 | exact bh_49 | exact bh_50 | exact bh_51 | exact bh_52 | exact bh_53 | exact bh_44 | exact (bh_n (by first | assumption | omega)).trans (by assumption)) (by rfl) ?_
    refine ma_imul dX7_measurePoints_8 ?_
    refine ma_rcmp_ge 128 dX7_measurePoints_9 rfl (by constructor <;> omega) (by constructor <;> omega) (fun c9 => ?_) (fun c9 => ?_)
    · -- 128
      have ek : k = 4 * t := by omega
      rw [ek, show 4 * (4 * t) = 16 * t by omega]
      exact ma_vret dX7_measurePoints_128 rfl K
    · -- 12
      have hp := hP k ⟨h0, by omega⟩
      refine ma_aload_n dX7_measurePoints_12 rfl ?_
      refine ma_getf dX7_measurePoints_13 fX7_25 (by first | exact bh_45 | exact bh_46 | exact bh_47 | exact bh_48 | exact bh_49 | exact bh_50 | exact bh_51 | exact bh_52 | exact bh_53 | exact bh_44 | exact (bh_n (by first | assumption | omega)).trans (by assumption)) (by rfl) ?_
      refine ma_iload_n dX7_measurePoints_16 rfl ?_
      refine ma_iald dX7_measurePoints_17 (by first | exact bh_45 | exact bh_46 | exact bh_47 | exact bh_48 | exact bh_49 | exact bh_50 | exact bh_51 | exact bh_52 | exact bh_53 | exact bh_44 | exact (bh_n (by first | assumption | omega)).trans (by assumption)) (by omega) (by omega) (by omega) ?_
      refine ma_istore_nN dX7_measurePoints_18 (by decide) rfl ?_
      refine ma_aload_n dX7_measurePoints_19 rfl ?_
      refine ma_getf dX7_measurePoints_20 fX7_28 (by first | exact bh_45 | exact bh_46 | exact bh_47 | exact bh_48 | exact bh_49 | exact bh_50 | exact bh_51 | exact bh_52 | exact bh_53 | exact bh_44 | exact (bh_n (by first | assumption | omega)).trans (by assumption)) (by rfl) ?_
      refine ma_iload_n dX7_measurePoints_23 rfl ?_
      refine ma_dup2 dX7_measurePoints_24 rfl rfl ?_
      refine ma_iald dX7_measurePoints_25 (by first | exact bh_45 | exact bh_46 | exact bh_47 | exact bh_48 | exact bh_49 | exact bh_50 | exact bh_51 | exact bh_52 | exact bh_53 | exact bh_44 | exact (bh_n (by first | assumption | omega)).trans (by assumption)) (by omega) (by omega) (by omega) ?_
      refine ma_iconst dX7_measurePoints_26 ?_
      refine ma_iadd dX7_measurePoints_27 ?_
      refine ma_iast dX7_measurePoints_28 (by first | exact bh_45 | exact bh_46 | exact bh_47 | exact bh_48 | exact bh_49 | exact bh_50 | exact bh_51 | exact bh_52 | exact bh_53 | exact bh_44 | exact (bh_n (by first | assumption | omega)).trans (by assumption)) (by omega) (by omega) (by omega) ?_
      rw [bh_p50, zA_s h0]
      refine ma_iload_n dX7_measurePoints_29 rfl ?_
      refine ma_iload_n dX7_measurePoints_30 rfl ?_
      refine ma_rcmp_ne 44 dX7_measurePoints_31 rfl (by constructor <;> omega) (by constructor <;> omega) (fun c31 => ?_) (fun c31 => ?_)
      · -- 44
        refine ma_iconst dX7_measurePoints_44 ?_
        refine ma_istoreN dX7_measurePoints_45 (by decide) rfl ?_
        rw [← ct_n (P := qP P) h0 (fun z => c31 z)]
        rw [show 4 * k = 4 * k + 0 by omega]
        exact l_X7_mP47 hb hg nb ng hG hE hP h0 (by omega) (fun xf => KO2 (by omega) _ _) 5 0 (by omega) (by omega) (by omega)
      · -- 34
        refine ma_aload_n dX7_measurePoints_34 rfl ?_
        refine ma_dup dX7_measurePoints_35 rfl ?_
        refine ma_getf dX7_measurePoints_36 fX7_72 (by first | exact bh_45 | exact bh_46 | exact bh_47 | exact bh_48 | exact bh_49 | exact bh_50 | exact bh_51 | exact bh_52 | exact bh_53 | exact bh_44 | exact (bh_n (by first | assumption | omega)).trans (by assumption)) (by rfl) ?_
        refine ma_iconst dX7_measurePoints_39 ?_
        refine ma_iadd dX7_measurePoints_40 ?_
        refine ma_puti dX7_measurePoints_41 fX7_72 (by first | exact bh_45 | exact bh_46 | exact bh_47 | exact bh_48 | exact bh_49 | exact bh_50 | exact bh_51 | exact bh_52 | exact bh_53 | exact bh_44 | exact (bh_n (by first | assumption | omega)).trans (by assumption)) (Nat.le_of_ble_eq_true rfl) ?_
        rw [show ([vr 45, vr 46, vr 47, vr 48, vr 49, vr 50, vr 51, vr 52, vi ec, vi (ct (qP P) k.toNat), vr 53] : List ma_V).set 9 (vi (ct (qP P) k.toNat + 1)) = [vr 45, vr 46, vr 47, vr 48, vr 49, vr 50, vr 51, vr 52, vi ec, vi (ct (qP P) k.toNat + 1), vr 53] from rfl, bh_p44, ← ct_y (P := qP P) h0 (by unfold qP; omega)]
        refine ma_iconst dX7_measurePoints_44 ?_
        refine ma_istoreN dX7_measurePoints_45 (by decide) rfl ?_
        rw [show 4 * k = 4 * k + 0 by omega]
        exact l_X7_mP47 hb hg nb ng hG hE hP h0 (by omega) (fun xf => KO2 (by omega) _ _) 5 0 (by omega) (by omega) (by omega)
theorem c_X7_measurePoints {h : ma_H} {b g nx d : Nat} {t : Int} {G E X D F P q : Int → Int} {ec : Int} {Q : Option ma_V → ma_H → Nat → Prop} (hb : h b = co 8 [vi t, vr g]) (hg : h g = ci 32 G) (nb : b < 44 ∨ 53 < b) (ng : g < 44 ∨ 53 < g) (hG : VG t G) (hE : ∀ x, 0 ≤ x → x < 128 → -1 ≤ E x ∧ E x < 128) (hP : ∀ x, oC t x → 0 ≤ P x ∧ P x < 32) (K : Q none (bh h E X D F P (zA P (4 * t)) (nA P E (16 * t)) (sA P G (16 * t)) q ec (ct (qP P) (4 * t).toNat)) nx) : ma_Ct mX7_measurePoints d 0 0 [vr 44, vr b] (bh h E X D F P (fun _ => 0) (fun _ => 0) (fun _ => 0) q ec 0) nx Q := by
  have ht := hG.1
  refine ma_Ct.of (by decide +kernel) (Nat.le_of_ble_eq_true rfl) ?_
  rw [show bh h E X D F P (fun _ => 0) (fun _ => 0) (fun _ => 0) q ec 0 = bh h E X D F P (zA P 0) (nA P E (4 * 0)) (sA P G (4 * 0)) q ec (ct (qP P) (0 : Int).toNat) from rfl]
  refine ma_iconst dX7_measurePoints_0 ?_
  refine ma_istore_nN dX7_measurePoints_1 (by decide) rfl ?_
  exact l_X7_mP2 hb hg nb ng hG hE hP K 40 0 _ _ (by omega) (by omega) (by omega)
theorem c_X7_isReversed {h : ma_H} {nx d : Nat} {E X D F P Z N S q : Int → Int} {ec pc x : Int} {Q : Option ma_V → ma_H → Nat → Prop} (hx : 0 ≤ x ∧ x < 128) (hE : ∀ x, 0 ≤ x → x < 128 → -1 ≤ E x ∧ E x < 128) (K1 : E x = E (tr x) → Q (some (vi 1)) (bh h E X D F P Z N S q ec pc) nx) (K0 : E x ≠ E (tr x) → Q (some (vi 0)) (bh h E X D F P Z N S q ec pc) nx) : ma_Ct mX7_isReversed (d + 1) 0 0 [vr 44, vi x] (bh h E X D F P Z N S q ec pc) nx Q := by
  have htr : 0 ≤ tr x ∧ tr x < 128 := by unfold tr; omega
  have e1 := hE x hx.1 hx.2
  have e2 := hE _ htr.1 htr.2
  refine ma_Ct.of (by decide +kernel) (Nat.le_of_ble_eq_true rfl) ?_
  refine ma_aload_n dX7_isReversed_0 rfl ?_
  refine ma_getf dX7_isReversed_1 fX7_11 (by first | exact bh_45 | exact bh_46 | exact bh_47 | exact bh_48 | exact bh_49 | exact bh_50 | exact bh_51 | exact bh_52 | exact bh_53 | exact bh_44 | exact (bh_n (by first | assumption | omega)).trans (by assumption)) (by rfl) ?_
  refine ma_iload_n dX7_isReversed_4 rfl ?_
  refine ma_iald dX7_isReversed_5 (by first | exact bh_45 | exact bh_46 | exact bh_47 | exact bh_48 | exact bh_49 | exact bh_50 | exact bh_51 | exact bh_52 | exact bh_53 | exact bh_44 | exact (bh_n (by first | assumption | omega)).trans (by assumption)) (by omega) (by omega) (by omega) ?_
  refine ma_aload_n dX7_isReversed_6 rfl ?_
  refine ma_getf dX7_isReversed_7 fX7_11 (by first | exact bh_45 | exact bh_46 | exact bh_47 | exact bh_48 | exact bh_49 | exact bh_50 | exact bh_51 | exact bh_52 | exact bh_53 | exact bh_44 | exact (bh_n (by first | assumption | omega)).trans (by assumption)) (by rfl) ?_
  refine ma_iload_n dX7_isReversed_10 rfl ?_
  refine ma_cS [_] dX7_isReversed_11 wX7_turned lX7_81 tX7_turned (Nat.le_of_ble_eq_true rfl) ?_
  refine c_X7_turned hx ?_
  refine ma_iald dX7_isReversed_14 (by first | exact bh_45 | exact bh_46 | exact bh_47 | exact bh_48 | exact bh_49 | exact bh_50 | exact bh_51 | exact bh_52 | exact bh_53 | exact bh_44 | exact (bh_n (by first | assumption | omega)).trans (by assumption)) (by omega) (by omega) (by omega) ?_
  refine ma_rcmp_ne 22 dX7_isReversed_15 rfl (by constructor <;> omega) (by constructor <;> omega) (fun c15 => ?_) (fun c15 => ?_)
  · -- 22
    refine ma_iconst dX7_isReversed_22 ?_
    first | exact ma_zret dX7_isReversed_23 rfl (Or.inr rfl) (K1 c15) | exact ma_zret dX7_isReversed_23 rfl (Or.inl rfl) (K0 c15) | exact ma_zret dX7_isReversed_23 rfl (Or.inr rfl) (K1 (by omega))
  · -- 18
    refine ma_iconst dX7_isReversed_18 ?_
    refine ma_goto 23 dX7_isReversed_19 rfl ?_
    first | exact ma_zret dX7_isReversed_23 rfl (Or.inr rfl) (K1 c15) | exact ma_zret dX7_isReversed_23 rfl (Or.inl rfl) (K0 c15) | exact ma_zret dX7_isReversed_23 rfl (Or.inr rfl) (K1 (by omega))
/-- the little surface's number of a point -/
def xi (Z N S : Int → Int) (x : Int) : Int := N x - (3 * Z x + S x) / 2 + Z x
theorem c_X7_chi {h : ma_H} {nx d : Nat} {E X D F P Z N S q : Int → Int} {ec pc x : Int} {Q : Option ma_V → ma_H → Nat → Prop} (hx : 0 ≤ x ∧ x < 32) (hZ : 0 ≤ Z x ∧ Z x ≤ 128) (hS : 0 ≤ S x ∧ S x ≤ 128) (K : Q (some (vi (xi Z N S x))) (bh h E X D F P Z N S q ec pc) nx) : ma_Ct mX7_chi d 0 0 [vr 44, vi x] (bh h E X D F P Z N S q ec pc) nx Q := by
  refine ma_Ct.of (by decide +kernel) (Nat.le_of_ble_eq_true rfl) ?_
  refine ma_iconst dX7_chi_0 ?_
  refine ma_aload_n dX7_chi_1 rfl ?_
  refine ma_getf dX7_chi_2 fX7_28 (by first | exact bh_45 | exact bh_46 | exact bh_47 | exact bh_48 | exact bh_49 | exact bh_50 | exact bh_51 | exact bh_52 | exact bh_53 | exact bh_44 | exact (bh_n (by first | assumption | omega)).trans (by assumption)) (by rfl) ?_
  refine ma_iload_n dX7_chi_5 rfl ?_
  refine ma_iald dX7_chi_6 (by first | exact bh_45 | exact bh_46 | exact bh_47 | exact bh_48 | exact bh_49 | exact bh_50 | exact bh_51 | exact bh_52 | exact bh_53 | exact bh_44 | exact (bh_n (by first | assumption | omega)).trans (by assumption)) (by omega) (by omega) (by omega) ?_
  refine ma_imul dX7_chi_7 ?_
  refine ma_aload_n dX7_chi_8 rfl ?_
  refine ma_getf dX7_chi_9 fX7_34 (by first | exact bh_45 | exact bh_46 | exact bh_47 | exact bh_48 | exact bh_49 | exact bh_50 | exact bh_51 | exact bh_52 | exact bh_53 | exact bh_44 | exact (bh_n (by first | assumption | omega)).trans (by assumption)) (by rfl) ?_
  refine ma_iload_n dX7_chi_12 rfl ?_
  refine ma_iald dX7_chi_13 (by first | exact bh_45 | exact bh_46 | exact bh_47 | exact bh_48 | exact bh_49 | exact bh_50 | exact bh_51 | exact bh_52 | exact bh_53 | exact bh_44 | exact (bh_n (by first | assumption | omega)).trans (by assumption)) (by omega) (by omega) (by omega) ?_
  refine ma_iadd dX7_chi_14 ?_
  refine ma_iconst dX7_chi_15 ?_
  refine ma_kdiv dX7_chi_16 (by constructor <;> omega) (by constructor <;> omega) ?_
  refine ma_istore_nN dX7_chi_17 (by decide) rfl ?_
  refine ma_aload_n dX7_chi_18 rfl ?_
  refine ma_getf dX7_chi_19 fX7_31 (by first | exact bh_45 | exact bh_46 | exact bh_47 | exact bh_48 | exact bh_49 | exact bh_50 | exact bh_51 | exact bh_52 | exact bh_53 | exact bh_44 | exact (bh_n (by first | assumption | omega)).trans (by assumption)) (by rfl) ?_
  refine ma_iload_n dX7_chi_22 rfl ?_
  refine ma_iald dX7_chi_23 (by first | exact bh_45 | exact bh_46 | exact bh_47 | exact bh_48 | exact bh_49 | exact bh_50 | exact bh_51 | exact bh_52 | exact bh_53 | exact bh_44 | exact (bh_n (by first | assumption | omega)).trans (by assumption)) (by omega) (by omega) (by omega) ?_
  refine ma_iload_n dX7_chi_24 rfl ?_
  refine ma_isub dX7_chi_25 ?_
  refine ma_aload_n dX7_chi_26 rfl ?_
  refine ma_getf dX7_chi_27 fX7_28 (by first | exact bh_45 | exact bh_46 | exact bh_47 | exact bh_48 | exact bh_49 | exact bh_50 | exact bh_51 | exact bh_52 | exact bh_53 | exact bh_44 | exact (bh_n (by first | assumption | omega)).trans (by assumption)) (by rfl) ?_
  refine ma_iload_n dX7_chi_30 rfl ?_
  refine ma_iald dX7_chi_31 (by first | exact bh_45 | exact bh_46 | exact bh_47 | exact bh_48 | exact bh_49 | exact bh_50 | exact bh_51 | exact bh_52 | exact bh_53 | exact bh_44 | exact (bh_n (by first | assumption | omega)).trans (by assumption)) (by omega) (by omega) (by omega) ?_
  refine ma_iadd dX7_chi_32 ?_
  exact ma_iret dX7_chi_33 rfl K
theorem c_X7_isRound {h : ma_H} {nx d : Nat} {E X D F P Z N S q : Int → Int} {ec pc x : Int} {Q : Option ma_V → ma_H → Nat → Prop} (hx : 0 ≤ x ∧ x < 32) (hZ : 0 ≤ Z x ∧ Z x ≤ 128) (hN : 0 ≤ N x ∧ N x ≤ 128) (hS : 0 ≤ S x ∧ S x ≤ 128) (K1 : S x = 0 → xi Z N S x = 2 → Q (some (vi 1)) (bh h E X D F P Z N S q ec pc) nx) (K0 : ¬ (S x = 0 ∧ xi Z N S x = 2) → Q (some (vi 0)) (bh h E X D F P Z N S q ec pc) nx) : ma_Ct mX7_isRound (d + 1) 0 0 [vr 44, vi x] (bh h E X D F P Z N S q ec pc) nx Q := by
  have hxi : -1000 ≤ xi Z N S x ∧ xi Z N S x ≤ 1000 := by unfold xi; omega
  refine ma_Ct.of (by decide +kernel) (Nat.le_of_ble_eq_true rfl) ?_
  refine ma_aload_n dX7_isRound_0 rfl ?_
  refine ma_getf dX7_isRound_1 fX7_34 (by first | exact bh_45 | exact bh_46 | exact bh_47 | exact bh_48 | exact bh_49 | exact bh_50 | exact bh_51 | exact bh_52 | exact bh_53 | exact bh_44 | exact (bh_n (by first | assumption | omega)).trans (by assumption)) (by rfl) ?_
  refine ma_iload_n dX7_isRound_4 rfl ?_
  refine ma_iald dX7_isRound_5 (by first | exact bh_45 | exact bh_46 | exact bh_47 | exact bh_48 | exact bh_49 | exact bh_50 | exact bh_51 | exact bh_52 | exact bh_53 | exact bh_44 | exact (bh_n (by first | assumption | omega)).trans (by assumption)) (by omega) (by omega) (by omega) ?_
  refine ma_rif_ne 22 dX7_isRound_6 rfl (by constructor <;> omega) (fun c6 => ?_) (fun c6 => ?_)
  · -- 22
    refine ma_iconst dX7_isRound_22 ?_
    first | exact ma_zret dX7_isRound_23 rfl (Or.inr rfl) (K1 (by omega) (by omega)) | exact ma_zret dX7_isRound_23 rfl (Or.inl rfl) (K0 (by omega))
  · -- 9
    refine ma_aload_n dX7_isRound_9 rfl ?_
    refine ma_iload_n dX7_isRound_10 rfl ?_
    refine ma_cV [_] dX7_isRound_11 wX7_chi lX7_91 iX7_chi sX7_chi rfl (by first | exact bh_45 | exact bh_46 | exact bh_47 | exact bh_48 | exact bh_49 | exact bh_50 | exact bh_51 | exact bh_52 | exact bh_53 | exact bh_44 | exact (bh_n (by first | assumption | omega)).trans (by assumption)) (Nat.le_of_ble_eq_true rfl) ?_
    refine c_X7_chi hx hZ hS ?_
    refine ma_iconst dX7_isRound_14 ?_
    refine ma_rcmp_ne 22 dX7_isRound_15 rfl (by constructor <;> omega) (by constructor <;> omega) (fun c15 => ?_) (fun c15 => ?_)
    · -- 22
      refine ma_iconst dX7_isRound_22 ?_
      first | exact ma_zret dX7_isRound_23 rfl (Or.inr rfl) (K1 (by omega) (by omega)) | exact ma_zret dX7_isRound_23 rfl (Or.inl rfl) (K0 (by omega))
    · -- 18
      refine ma_iconst dX7_isRound_18 ?_
      refine ma_goto 23 dX7_isRound_19 rfl ?_
      first | exact ma_zret dX7_isRound_23 rfl (Or.inr rfl) (K1 (by omega) (by omega)) | exact ma_zret dX7_isRound_23 rfl (Or.inl rfl) (K0 (by omega))
/-- what the bones of a solid are -/
def BP (t : Int) (G E P : Int → Int) : Prop := RP (oE t) (nE G) E ∧ (∀ x, 0 ≤ x → x < 128 → ¬ oE t x → E x = -1) ∧ RP (oC t) (nC G) P ∧ ∀ x, 0 ≤ x → x < 32 → ¬ oC t x → P x = -1
noncomputable abbrev br (h : ma_H) (t : Int) (G E P q : Int → Int) : ma_H := bh h E (xA E (16 * t)) (dA E (16 * t)) (fA E G (16 * t) 0) P (zA P (4 * t)) (nA P E (16 * t)) (sA P G (16 * t)) q (ct (cP E) (16 * t).toNat) (ct (qP P) (4 * t).toNat)
theorem bp_E {t : Int} {G E P : Int → Int} (h : BP t G E P) (x : Int) (h0 : 0 ≤ x) (h1 : x < 128) : -1 ≤ E x ∧ E x < 128 := by
  by_cases z : oE t x
  · have := h.1.1 x z
    omega
  · have := h.2.1 x h0 h1 z
    omega
theorem bp_P {t : Int} {G E P : Int → Int} (h : BP t G E P) (x : Int) (h0 : 0 ≤ x) (h1 : x < 32) : -1 ≤ P x ∧ P x < 32 := by
  by_cases z : oC t x
  · have := h.2.2.1.1 x z
    omega
  · have := h.2.2.2 x h0 h1 z
    omega
set_option maxHeartbeats 4000000 in
theorem l_X7_read_51 {h : ma_H} {b g nx d : Nat} {t : Int} {G : Int → Int} {Q : Option ma_V → ma_H → Nat → Prop} (hb : h b = co 8 [vi t, vr g]) (hg : h g = ci 32 G) (nb : b < 44 ∨ 53 < b) (ng : g < 44 ∨ 53 < g) (hG : VG t G) {E : Int → Int} (hE : RP (oE t) (nE G) E) (hE2 : ∀ x, 0 ≤ x → x < 128 → ¬ oE t x → E x = -1) (K : ∀ E P q, BP t G E P → Q none (br h t G E P q) nx) :
    ∀ (m : Nat) (s : Int) (P q : Int → Int), 0 ≤ s → s ≤ 4 * t → 4 * t - s < m → RI 32 (oC t) (nC G) P s → ma_J none mX7_read (d + 3) 0 0 51 [some (vr 44), some (vr b), some (vi s)] [] (bh h E (fun _ => -1) (fun _ => 0) (fun _ => 0) P (fun _ => 0) (fun _ => 0) (fun _ => 0) q 0 0) nx Q := by
  have ht := hG.1
  intro m
  induction m with
  | zero => intro s P q h0 h1 h2; omega
  | succ m ih =>
    intro s P q h0 h1 h2 RC
    refine ma_iload_n dX7_read_51 rfl ?_
    refine ma_iconst dX7_read_52 ?_
    refine ma_aload_n dX7_read_53 rfl ?_
    refine ma_getf dX7_read_54 fX7_43 (by first | exact bh_45 | exact bh_46 | exact bh_47 | exact bh_48 | exact bh_49 | exact bh_50 | exact bh_51 | exact bh_52 | exact bh_53 | exact bh_44 | exact (bh_n (by first | assumption | omega)).trans (by assumption)) (by rfl) ?_
    refine ma_imul dX7_read_57 ?_
    refine ma_rcmp_ge 82 dX7_read_58 rfl (by constructor <;> omega) (by constructor <;> omega) (fun c58 => ?_) (fun c58 => ?_)
    · -- 82
      have hP := ri_rp RC (fun x hx => by unfold oC at hx; omega)
      refine ma_aload_n dX7_read_82 rfl ?_
      refine ma_aload_n dX7_read_83 rfl ?_
      refine ma_cV [_] dX7_read_84 wX7_measureEdges lX7_56 iX7_measureEdges sX7_measureEdges rfl (by first | exact bh_45 | exact bh_46 | exact bh_47 | exact bh_48 | exact bh_49 | exact bh_50 | exact bh_51 | exact bh_52 | exact bh_53 | exact bh_44 | exact (bh_n (by first | assumption | omega)).trans (by assumption)) (Nat.le_of_ble_eq_true rfl) ?_
      refine c_X7_measureEdges hb hg nb ng hG (fun x hx => by have := hE.1 x hx; unfold oE at hx; omega) ?_
      refine ma_aload_n dX7_read_87 rfl ?_
      refine ma_aload_n dX7_read_88 rfl ?_
      refine ma_cV [_] dX7_read_89 wX7_measurePoints lX7_60 iX7_measurePoints sX7_measurePoints rfl (by first | exact bh_45 | exact bh_46 | exact bh_47 | exact bh_48 | exact bh_49 | exact bh_50 | exact bh_51 | exact bh_52 | exact bh_53 | exact bh_44 | exact (bh_n (by first | assumption | omega)).trans (by assumption)) (Nat.le_of_ble_eq_true rfl) ?_
      refine c_X7_measurePoints hb hg nb ng hG (fun x x0 x1 => by
        by_cases z : oE t x
        · have := hE.1 x z; omega
        · have := hE2 x x0 x1 z; omega) (fun x hx => by have := hP.1 x hx; unfold oC at hx; omega) ?_
      exact ma_vret dX7_read_92 rfl (K E P q ⟨hE, hE2, hP, RC.2.2.2⟩)
    · -- 61
      refine ma_aload_n dX7_read_61 rfl ?_
      refine ma_getf dX7_read_62 fX7_25 (by first | exact bh_45 | exact bh_46 | exact bh_47 | exact bh_48 | exact bh_49 | exact bh_50 | exact bh_51 | exact bh_52 | exact bh_53 | exact bh_44 | exact (bh_n (by first | assumption | omega)).trans (by assumption)) (by rfl) ?_
      refine ma_iload_n dX7_read_65 rfl ?_
      refine ma_iald dX7_read_66 (by first | exact bh_45 | exact bh_46 | exact bh_47 | exact bh_48 | exact bh_49 | exact bh_50 | exact bh_51 | exact bh_52 | exact bh_53 | exact bh_44 | exact (bh_n (by first | assumption | omega)).trans (by assumption)) (by omega) (by omega) (by omega) ?_
      have hpr : -1 ≤ P s ∧ P s < 32 := by
        rcases RC.1 s ⟨h0, by omega⟩ with z | z <;> omega
      refine ma_rif_ge 76 dX7_read_67 rfl (by constructor <;> omega) (fun c67 => ?_) (fun c67 => ?_)
      · -- 76
        refine ma_iincN dX7_read_76 rfl (by decide) rfl ?_
        refine ma_goto 51 dX7_read_79 rfl ?_
        exact ih (s + 1) P q (by omega) (by omega) (by omega) (ri_next RC (fun _ => by omega))
      · -- 70
        refine ma_aload_n dX7_read_70 rfl ?_
        refine ma_aload_n dX7_read_71 rfl ?_
        refine ma_iload_n dX7_read_72 rfl ?_
        refine ma_cV [_, _] dX7_read_73 wX7_floodCorners lX7_53 iX7_floodCorners sX7_floodCorners rfl (by first | exact bh_45 | exact bh_46 | exact bh_47 | exact bh_48 | exact bh_49 | exact bh_50 | exact bh_51 | exact bh_52 | exact bh_53 | exact bh_44 | exact (bh_n (by first | assumption | omega)).trans (by assumption)) (Nat.le_of_ble_eq_true rfl) ?_
        refine c_X7_floodCorners bh_44 (by rw [bh_n nb]; exact hb) (by rw [bh_n ng]; exact hg) (by omega) (by omega) (by omega) (by omega) hG bh_49 bh_53 RC ⟨h0, by omega⟩ (by omega) (fun P' q' RC' => ?_)
        rw [bh_p49, bh_p53]
        refine ma_iincN dX7_read_76 rfl (by decide) rfl ?_
        refine ma_goto 51 dX7_read_79 rfl ?_
        exact ih (s + 1) P' q' (by omega) (by omega) (by omega) RC'
set_option maxHeartbeats 4000000 in
theorem l_X7_read_6 {h : ma_H} {b g nx d : Nat} {t : Int} {G : Int → Int} {Q : Option ma_V → ma_H → Nat → Prop} (hb : h b = co 8 [vi t, vr g]) (hg : h g = ci 32 G) (nb : b < 44 ∨ 53 < b) (ng : g < 44 ∨ 53 < g) (hG : VG t G) (K : ∀ E P q, BP t G E P → Q none (br h t G E P q) nx) :
    ∀ (m : Nat) (s : Int) (E q : Int → Int), 0 ≤ s → s ≤ 16 * t → 16 * t - s < m → RI 128 (oE t) (nE G) E s → ma_J none mX7_read (d + 3) 0 0 6 [some (vr 44), some (vr b), some (vi s)] [] (bh h E (fun _ => -1) (fun _ => 0) (fun _ => 0) (fun _ => -1) (fun _ => 0) (fun _ => 0) (fun _ => 0) q 0 0) nx Q := by
  have ht := hG.1
  intro m
  induction m with
  | zero => intro s E q h0 h1 h2; omega
  | succ m ih =>
    intro s E q h0 h1 h2 RE
    refine ma_iload_n dX7_read_6 rfl ?_
    refine ma_bipush dX7_read_7 ?_
    refine ma_aload_n dX7_read_9 rfl ?_
    refine ma_getf dX7_read_10 fX7_43 (by first | exact bh_45 | exact bh_46 | exact bh_47 | exact bh_48 | exact bh_49 | exact bh_50 | exact bh_51 | exact bh_52 | exact bh_53 | exact bh_44 | exact (bh_n (by first | assumption | omega)).trans (by assumption)) (by rfl) ?_
    refine ma_imul dX7_read_13 ?_
    refine ma_rcmp_ge 49 dX7_read_14 rfl (by constructor <;> omega) (by constructor <;> omega) (fun c14 => ?_) (fun c14 => ?_)
    · -- 49
      refine ma_iconst dX7_read_49 ?_
      refine ma_istore_nN dX7_read_50 (by decide) rfl ?_
      exact l_X7_read_51 hb hg nb ng hG (ri_rp RE (fun x hx => by unfold oE at hx; omega)) RE.2.2.2 K 40 0 _ q (by omega) (by omega) (by omega) (ri_0 (nb_C hG))
    · -- 17
      refine ma_aload_n dX7_read_17 rfl ?_
      refine ma_getf dX7_read_18 fX7_11 (by first | exact bh_45 | exact bh_46 | exact bh_47 | exact bh_48 | exact bh_49 | exact bh_50 | exact bh_51 | exact bh_52 | exact bh_53 | exact bh_44 | exact (bh_n (by first | assumption | omega)).trans (by assumption)) (by rfl) ?_
      refine ma_iload_n dX7_read_21 rfl ?_
      refine ma_iald dX7_read_22 (by first | exact bh_45 | exact bh_46 | exact bh_47 | exact bh_48 | exact bh_49 | exact bh_50 | exact bh_51 | exact bh_52 | exact bh_53 | exact bh_44 | exact (bh_n (by first | assumption | omega)).trans (by assumption)) (by omega) (by omega) (by omega) ?_
      have hpr : -1 ≤ E s ∧ E s < 128 := by
        by_cases z : oE t s
        · rcases RE.1 s z with y | y <;> omega
        · have := RE.2.2.2 s h0 (by omega) z; omega
      refine ma_rif_ge 43 dX7_read_23 rfl (by constructor <;> omega) (fun c23 => ?_) (fun c23 => ?_)
      · -- 43
        refine ma_iincN dX7_read_43 rfl (by decide) rfl ?_
        refine ma_goto 6 dX7_read_46 rfl ?_
        exact ih (s + 1) E q (by omega) (by omega) (by omega) (ri_next RE (fun _ => by omega))
      · -- 26
        refine ma_iload_n dX7_read_26 rfl ?_
        refine ma_iconst dX7_read_27 ?_
        refine ma_kshr 4 dX7_read_28 (by decide) (by constructor <;> omega) ?_
        refine ma_iconst dX7_read_29 ?_
        refine ma_kand 2 4 dX7_read_30 (by decide) (by decide +kernel) (by decide) ?_
        refine ma_iload_n dX7_read_31 rfl ?_
        refine ma_iconst dX7_read_32 ?_
        refine ma_kand 2 4 dX7_read_33 (by decide) (by decide +kernel) (by decide) ?_
        refine ma_rcmp_eq 43 dX7_read_34 rfl (by constructor <;> omega) (by constructor <;> omega) (fun c34 => ?_) (fun c34 => ?_)
        · -- 43
          refine ma_iincN dX7_read_43 rfl (by decide) rfl ?_
          refine ma_goto 6 dX7_read_46 rfl ?_
          exact ih (s + 1) E q (by omega) (by omega) (by omega) (ri_next RE (fun z => by unfold oE at z; omega))
        · -- 37
          refine ma_aload_n dX7_read_37 rfl ?_
          refine ma_aload_n dX7_read_38 rfl ?_
          refine ma_iload_n dX7_read_39 rfl ?_
          refine ma_cV [_, _] dX7_read_40 wX7_floodEnds lX7_49 iX7_floodEnds sX7_floodEnds rfl (by first | exact bh_45 | exact bh_46 | exact bh_47 | exact bh_48 | exact bh_49 | exact bh_50 | exact bh_51 | exact bh_52 | exact bh_53 | exact bh_44 | exact (bh_n (by first | assumption | omega)).trans (by assumption)) (Nat.le_of_ble_eq_true rfl) ?_
          refine c_X7_floodEnds bh_44 (by rw [bh_n nb]; exact hb) (by rw [bh_n ng]; exact hg) (by omega) (by omega) (by omega) (by omega) hG bh_45 bh_53 RE ⟨h0, by omega, by omega⟩ (by omega) (fun E' q' RE' => ?_)
          rw [bh_p45, bh_p53]
          refine ma_iincN dX7_read_43 rfl (by decide) rfl ?_
          refine ma_goto 6 dX7_read_46 rfl ?_
          exact ih (s + 1) E' q' (by omega) (by omega) (by omega) RE'
theorem c_X7_read {h : ma_H} {b g nx d : Nat} {t : Int} {G : Int → Int} {Q : Option ma_V → ma_H → Nat → Prop} {E X D F P Z N S q : Int → Int} {ec pc : Int} (hb : h b = co 8 [vi t, vr g]) (hg : h g = ci 32 G) (nb : b < 44 ∨ 53 < b) (ng : g < 44 ∨ 53 < g) (hG : VG t G) (K : ∀ E P q, BP t G E P → Q none (br h t G E P q) nx) : ma_Ct mX7_read (d + 3) 0 0 [vr 44, vr b] (bh h E X D F P Z N S q ec pc) nx Q := by
  have ht := hG.1
  refine ma_Ct.of (by decide +kernel) (Nat.le_of_ble_eq_true rfl) ?_
  refine ma_aload_n dX7_read_0 rfl ?_
  refine ma_cV [] dX7_read_1 wX7_clear lX7_40 iX7_clear sX7_clear rfl (by first | exact bh_45 | exact bh_46 | exact bh_47 | exact bh_48 | exact bh_49 | exact bh_50 | exact bh_51 | exact bh_52 | exact bh_53 | exact bh_44 | exact (bh_n (by first | assumption | omega)).trans (by assumption)) (Nat.le_of_ble_eq_true rfl) ?_
  refine c_X7_clear ?_
  refine ma_iconst dX7_read_4 ?_
  refine ma_istore_nN dX7_read_5 (by decide) rfl ?_
  exact l_X7_read_6 hb hg nb ng hG K 130 0 _ q (by omega) (by omega) (by omega) (ri_0 (nb_E hG))
