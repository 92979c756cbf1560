theorem fl_e {h : ma_H} {a b : Nat} {c c' x : ma_C} (e : b ≠ a) : ma_up (ma_up (ma_up h a c) b c') a x = ma_up (ma_up h a x) b c' := by
  rw [ma_up_cm _ _ _ e, ma_up_up]
set_option maxHeartbeats 4000000 in
theorem l_X7_floodEnds_71 {h : ma_H} {b g nx d : Nat} {t ec pc s : Int} {G E0 : Int → Int} {Q : Option ma_V → ma_H → Nat → Prop} (ha : h 44 = co 7 [vr 45, vr 46, vr 47, vr 48, vr 49, vr 50, vr 51, vr 52, vi ec, vi pc, vr 53]) (hb : h b = co 8 [vi t, vr g]) (hg : h g = ci 32 G) (n1 : b ≠ 45) (n2 : b ≠ 53) (n3 : g ≠ 45) (n4 : g ≠ 53) (hG : VG t G) (R : RI 128 (oE t) (nE G) E0 s) (hs : oE t s) {i x : Int} (hx0 : 0 ≤ x ∧ x < 128) (hox : oE t x) (KO : ∀ (E q : Int → Int) (n : Int) (xf x0 x1 x2 : Option ma_V), FQ 128 (oE t) (nE G) s E0 E q n i 4 → i < n → ma_J none mX7_floodEnds d 0 0 188 [some (vr 44), some (vr b), some (vi s), some (vi n), some (vi i), some (vi (x / 16)), some (vi (x / 4 % 4)), some (vi (x % 4)), xf, x0, x1, x2] [] (ma_up (ma_up h 45 (ci 128 E)) 53 (ci 128 q)) nx Q) :
    ∀ (m : Nat) (f : Int) (E q : Int → Int) (n : Int) (x0 x1 x2 : Option ma_V), 0 ≤ f → f ≤ 4 → 4 - f < m → FQ 128 (oE t) (nE G) s E0 E q n i f → i < n → q i = x → ma_J none mX7_floodEnds d 0 0 71 [some (vr 44), some (vr b), some (vi s), some (vi n), some (vi i), some (vi (x / 16)), some (vi (x / 4 % 4)), some (vi (x % 4)), some (vi f), x0, x1, x2] [] (ma_up (ma_up h 45 (ci 128 E)) 53 (ci 128 q)) nx Q := by
  have ht := hG.1
  have hox2 := hox
  unfold oE at hox2
  intro m
  induction m with
  | zero => intro f E q n x0 x1 x2 h0 h1 h2; omega
  | succ m ih =>
    intro f E q n x0 x1 x2 h0 h3 h4 FF hi hx
    refine ma_iload dX7_floodEnds_71 rfl ?_
    refine ma_iconst dX7_floodEnds_73 ?_
    refine ma_rcmp_ge 188 dX7_floodEnds_74 rfl (by constructor <;> omega) (by constructor <;> omega) (fun c74 => ?_) (fun c74 => ?_)
    · -- 188
      have e4 : f = 4 := by omega
      rw [e4] at FF
      exact KO E q n _ _ _ _ FF hi
    · -- 77
      refine ma_aload_n dX7_floodEnds_77 rfl ?_
      refine ma_getf dX7_floodEnds_78 fX7_75 (by first | assumption | exact ma_up_s _ _ _ | (rw [ma_up_n (by first | assumption | decide)]; first | assumption | exact ma_up_s _ _ _ | (rw [ma_up_n (by first | assumption | decide)]; first | assumption | exact ma_up_s _ _ _))) (by rfl) ?_
      refine ma_iconst dX7_floodEnds_81 ?_
      refine ma_iload dX7_floodEnds_82 rfl ?_
      refine ma_imul dX7_floodEnds_84 ?_
      refine ma_iload dX7_floodEnds_85 rfl ?_
      refine ma_iadd dX7_floodEnds_87 ?_
      refine ma_iald dX7_floodEnds_88 (by first | assumption | exact ma_up_s _ _ _ | (rw [ma_up_n (by first | assumption | decide)]; first | assumption | exact ma_up_s _ _ _ | (rw [ma_up_n (by first | assumption | decide)]; first | assumption | exact ma_up_s _ _ _))) (by omega) (by omega) (by omega) ?_
      refine ma_istoreN dX7_floodEnds_89 (by decide) rfl ?_
      refine ma_iload dX7_floodEnds_91 rfl ?_
      refine ma_iload dX7_floodEnds_93 rfl ?_
      refine ma_rcmp_eq 182 dX7_floodEnds_95 rfl (by constructor <;> omega) (by constructor <;> omega) (fun c95 => ?_) (fun c95 => ?_)
      · -- 182
        refine ma_iincN dX7_floodEnds_182 rfl (by decide) rfl ?_
        refine ma_goto 71 dX7_floodEnds_185 rfl ?_
        first | exact ih (f + 1) E q n _ _ _ (by omega) (by omega) (by omega) (fq_skip FF (fun z => by rw [hx]; exact c160)) hi hx | (exact ih (f + 1) E q n _ _ _ (by omega) (by omega) (by omega) (fq_skip FF (fun z => by rw [hx] at z; unfold nE at z; rw [if_pos (by omega)] at z; omega)) hi hx) | exact ih (f + 1) _ _ (n + 1) _ _ _ (by omega) (by omega) (by omega) (by have w := fq_add (nb_E hG) FF hi h0 (by omega) (by rw [hx]; exact hk0) (by rw [hx]; omega); rw [hx] at w; exact w) (by omega) (by rw [uf_n (by omega)]; exact hx)
      · -- 98
        refine ma_iload dX7_floodEnds_98 rfl ?_
        refine ma_iload dX7_floodEnds_100 rfl ?_
        refine ma_rcmp_eq 182 dX7_floodEnds_102 rfl (by constructor <;> omega) (by constructor <;> omega) (fun c102 => ?_) (fun c102 => ?_)
        · -- 182
          refine ma_iincN dX7_floodEnds_182 rfl (by decide) rfl ?_
          refine ma_goto 71 dX7_floodEnds_185 rfl ?_
          first | exact ih (f + 1) E q n _ _ _ (by omega) (by omega) (by omega) (fq_skip FF (fun z => by rw [hx]; exact c160)) hi hx | (exact ih (f + 1) E q n _ _ _ (by omega) (by omega) (by omega) (fq_skip FF (fun z => by rw [hx] at z; unfold nE at z; rw [if_pos (by omega)] at z; omega)) hi hx) | exact ih (f + 1) _ _ (n + 1) _ _ _ (by omega) (by omega) (by omega) (by have w := fq_add (nb_E hG) FF hi h0 (by omega) (by rw [hx]; exact hk0) (by rw [hx]; omega); rw [hx] at w; exact w) (by omega) (by rw [uf_n (by omega)]; exact hx)
        · -- 105
          have hc := hG.2.1 (4 * (x / 16) + f) (by omega) (by omega)
          have hcr : -1 ≤ G (4 * (x / 16) + f) ∧ G (4 * (x / 16) + f) < 256 := by
            rcases hc with z | z <;> omega
          refine ma_iload dX7_floodEnds_105 rfl ?_
          refine ma_rif_ge 113 dX7_floodEnds_107 rfl (by constructor <;> omega) (fun c107 => ?_) (fun c107 => ?_)
          · -- 113
            have hc2 : 0 ≤ G (4 * (x / 16) + f) ∧ G (4 * (x / 16) + f) / 32 < t ∧ G (4 * (x / 16) + f) % 32 < 24 := by
              rcases hc with z | z
              · omega
              · exact ⟨z.1, z.2.1, z.2.2.1⟩
            have en : nE G f x = 16 * (G (4 * (x / 16) + f) / 32) + 4 * ma_tf 0 (4 * (G (4 * (x / 16) + f) % 32) + x / 4 % 4) + ma_tf 0 (4 * (G (4 * (x / 16) + f) % 32) + x % 4) := by
              unfold nE
              rw [if_neg (by omega)]
              rfl
            have hk0 : 0 ≤ nE G f x := by
              have i1 := im_in (show 0 ≤ G (4 * (x / 16) + f) % 32 by omega) hc2.2.2 (show 0 ≤ x % 4 by omega) (show x % 4 < 4 by omega)
              have i2 := im_in (show 0 ≤ G (4 * (x / 16) + f) % 32 by omega) hc2.2.2 (show 0 ≤ x / 4 % 4 by omega) (show x / 4 % 4 < 4 by omega)
              unfold nE
              rw [if_neg (by omega)]
              omega
            have hk := (nb_E hG).1 _ (((nb_E hG).2 x f hox h0 (by omega) hk0).1)
            refine ma_iconst dX7_floodEnds_113 ?_
            refine ma_iload dX7_floodEnds_114 rfl ?_
            refine ma_bipush dX7_floodEnds_116 ?_
            refine ma_kand 5 32 dX7_floodEnds_118 (by decide) (by decide +kernel) (by decide) ?_
            refine ma_imul dX7_floodEnds_119 ?_
            refine ma_istoreN dX7_floodEnds_120 (by decide) rfl ?_
            refine ma_bipush dX7_floodEnds_122 ?_
            refine ma_iload dX7_floodEnds_124 rfl ?_
            refine ma_iconst dX7_floodEnds_126 ?_
            refine ma_kshr 32 dX7_floodEnds_127 (by decide) (by constructor <;> omega) ?_
            refine ma_imul dX7_floodEnds_128 ?_
            refine ma_iconst dX7_floodEnds_129 ?_
            refine ma_getsN (j := 0) dX7_floodEnds_130 (by decide) gX7_78 ?_
            refine ma_iload dX7_floodEnds_133 rfl ?_
            refine ma_iload dX7_floodEnds_135 rfl ?_
            refine ma_iadd dX7_floodEnds_137 ?_
            refine ma_tald (j := 0) (n := 96) dX7_floodEnds_138 (by decide) tl_0 (by omega) (by omega) (by decide) ?_
            refine ma_imul dX7_floodEnds_139 ?_
            refine ma_iadd dX7_floodEnds_140 ?_
            refine ma_getsN (j := 0) dX7_floodEnds_141 (by decide) gX7_78 ?_
            refine ma_iload dX7_floodEnds_144 rfl ?_
            refine ma_iload dX7_floodEnds_146 rfl ?_
            refine ma_iadd dX7_floodEnds_148 ?_
            refine ma_tald (j := 0) (n := 96) dX7_floodEnds_149 (by decide) tl_0 (by omega) (by omega) (by decide) ?_
            refine ma_iadd dX7_floodEnds_150 ?_
            rw [← en]
            refine ma_istoreN dX7_floodEnds_151 (by decide) rfl ?_
            refine ma_aload_n dX7_floodEnds_153 rfl ?_
            refine ma_getf dX7_floodEnds_154 fX7_11 (by first | assumption | exact ma_up_s _ _ _ | (rw [ma_up_n (by first | assumption | decide)]; first | assumption | exact ma_up_s _ _ _ | (rw [ma_up_n (by first | assumption | decide)]; first | assumption | exact ma_up_s _ _ _))) (by rfl) ?_
            refine ma_iload dX7_floodEnds_157 rfl ?_
            have hE : -1 ≤ E (nE G f x) ∧ E (nE G f x) ≤ 127 := by
              have hsN := (nb_E hG).1 _ hs
              have hR1 := R.1 _ (((nb_E hG).2 x f hox h0 (by omega) hk0).1)
              rcases FF.2.2.2.1 _ hk.1 hk.2 with z | ⟨z, -⟩ <;> omega
            refine ma_iald dX7_floodEnds_159 (by first | assumption | exact ma_up_s _ _ _ | (rw [ma_up_n (by first | assumption | decide)]; first | assumption | exact ma_up_s _ _ _ | (rw [ma_up_n (by first | assumption | decide)]; first | assumption | exact ma_up_s _ _ _))) (by omega) (by omega) (by omega) ?_
            refine ma_rif_ge 182 dX7_floodEnds_160 rfl (by constructor <;> omega) (fun c160 => ?_) (fun c160 => ?_)
            · -- 182
              refine ma_iincN dX7_floodEnds_182 rfl (by decide) rfl ?_
              refine ma_goto 71 dX7_floodEnds_185 rfl ?_
              first | exact ih (f + 1) E q n _ _ _ (by omega) (by omega) (by omega) (fq_skip FF (fun z => by rw [hx]; exact c160)) hi hx | (exact ih (f + 1) E q n _ _ _ (by omega) (by omega) (by omega) (fq_skip FF (fun z => by rw [hx] at z; unfold nE at z; rw [if_pos (by omega)] at z; omega)) hi hx) | exact ih (f + 1) _ _ (n + 1) _ _ _ (by omega) (by omega) (by omega) (by have w := fq_add (nb_E hG) FF hi h0 (by omega) (by rw [hx]; exact hk0) (by rw [hx]; omega); rw [hx] at w; exact w) (by omega) (by rw [uf_n (by omega)]; exact hx)
            · -- 163
              refine ma_aload_n dX7_floodEnds_163 rfl ?_
              refine ma_getf dX7_floodEnds_164 fX7_11 (by first | assumption | exact ma_up_s _ _ _ | (rw [ma_up_n (by first | assumption | decide)]; first | assumption | exact ma_up_s _ _ _ | (rw [ma_up_n (by first | assumption | decide)]; first | assumption | exact ma_up_s _ _ _))) (by rfl) ?_
              refine ma_iload dX7_floodEnds_167 rfl ?_
              refine ma_iload_n dX7_floodEnds_169 rfl ?_
              refine ma_iast dX7_floodEnds_170 (by first | assumption | exact ma_up_s _ _ _ | (rw [ma_up_n (by first | assumption | decide)]; first | assumption | exact ma_up_s _ _ _ | (rw [ma_up_n (by first | assumption | decide)]; first | assumption | exact ma_up_s _ _ _))) (by omega) (by omega) (by omega) ?_
              rw [fl_e (by decide)]
              have hr := fq_room (nb_E hG) (fq_add (nb_E hG) FF hi h0 (by omega) (by rw [hx]; exact hk0) (by rw [hx]; omega))
              have hn := FF.1
              refine ma_aload_n dX7_floodEnds_171 rfl ?_
              refine ma_getf dX7_floodEnds_172 fX7_37 (by first | assumption | exact ma_up_s _ _ _ | (rw [ma_up_n (by first | assumption | decide)]; first | assumption | exact ma_up_s _ _ _ | (rw [ma_up_n (by first | assumption | decide)]; first | assumption | exact ma_up_s _ _ _))) (by rfl) ?_
              refine ma_iload_n dX7_floodEnds_175 rfl ?_
              refine ma_iload dX7_floodEnds_176 rfl ?_
              refine ma_iast dX7_floodEnds_178 (by first | assumption | exact ma_up_s _ _ _ | (rw [ma_up_n (by first | assumption | decide)]; first | assumption | exact ma_up_s _ _ _ | (rw [ma_up_n (by first | assumption | decide)]; first | assumption | exact ma_up_s _ _ _))) (by omega) (by omega) (by omega) ?_
              rw [ma_up_up]
              refine ma_iincN dX7_floodEnds_179 rfl (by decide) rfl ?_
              refine ma_iincN dX7_floodEnds_182 rfl (by decide) rfl ?_
              refine ma_goto 71 dX7_floodEnds_185 rfl ?_
              first | exact ih (f + 1) E q n _ _ _ (by omega) (by omega) (by omega) (fq_skip FF (fun z => by rw [hx]; exact c160)) hi hx | (exact ih (f + 1) E q n _ _ _ (by omega) (by omega) (by omega) (fq_skip FF (fun z => by rw [hx] at z; unfold nE at z; rw [if_pos (by omega)] at z; omega)) hi hx) | exact ih (f + 1) _ _ (n + 1) _ _ _ (by omega) (by omega) (by omega) (by have w := fq_add (nb_E hG) FF hi h0 (by omega) (by rw [hx]; exact hk0) (by rw [hx]; omega); rw [hx] at w; exact w) (by omega) (by rw [uf_n (by omega)]; exact hx)
          · -- 110
            refine ma_goto 182 dX7_floodEnds_110 rfl ?_
            refine ma_iincN dX7_floodEnds_182 rfl (by decide) rfl ?_
            refine ma_goto 71 dX7_floodEnds_185 rfl ?_
            first | exact ih (f + 1) E q n _ _ _ (by omega) (by omega) (by omega) (fq_skip FF (fun z => by rw [hx]; exact c160)) hi hx | (exact ih (f + 1) E q n _ _ _ (by omega) (by omega) (by omega) (fq_skip FF (fun z => by rw [hx] at z; unfold nE at z; rw [if_pos (by omega)] at z; omega)) hi hx) | exact ih (f + 1) _ _ (n + 1) _ _ _ (by omega) (by omega) (by omega) (by have w := fq_add (nb_E hG) FF hi h0 (by omega) (by rw [hx]; exact hk0) (by rw [hx]; omega); rw [hx] at w; exact w) (by omega) (by rw [uf_n (by omega)]; exact hx)
set_option maxHeartbeats 4000000 in
theorem l_X7_floodEnds_19 {h : ma_H} {b g nx d : Nat} {t ec pc s : Int} {G E0 : Int → Int} {Q : Option ma_V → ma_H → Nat → Prop} (ha : h 44 = co 7 [vr 45, vr 46, vr 47, vr 48, vr 49, vr 50, vr 51, vr 52, vi ec, vi pc, vr 53]) (hb : h b = co 8 [vi t, vr g]) (hg : h g = ci 32 G) (n1 : b ≠ 45) (n2 : b ≠ 53) (n3 : g ≠ 45) (n4 : g ≠ 53) (hG : VG t G) (R : RI 128 (oE t) (nE G) E0 s) (hs : oE t s) (K : ∀ E q, RI 128 (oE t) (nE G) E (s + 1) → Q none (ma_up (ma_up h 45 (ci 128 E)) 53 (ci 128 q)) nx) :
    ∀ (m : Nat) (i n : Int) (E q : Int → Int) (y0 y1 y2 y3 y4 y5 y6 : Option ma_V), 0 ≤ i → i ≤ n → 128 - i < m → FQ 128 (oE t) (nE G) s E0 E q n i 0 → ma_J none mX7_floodEnds d 0 0 19 [some (vr 44), some (vr b), some (vi s), some (vi n), some (vi i), y0, y1, y2, y3, y4, y5, y6] [] (ma_up (ma_up h 45 (ci 128 E)) 53 (ci 128 q)) nx Q := by
  have ht := hG.1
  intro m
  induction m with
  | zero => intro i n E q y0 y1 y2 y3 y4 y5 y6 h0 h1 h2 FF; have hr := fq_room (nb_E hG) FF; omega
  | succ m ih =>
    intro i n E q y0 y1 y2 y3 y4 y5 y6 h0 h3 h4 FF
    have hr := fq_room (nb_E hG) FF
    have KO2 : ∀ (E' q' : Int → Int) (n' : Int) (y0 y1 y2 y3 y4 y5 y6 : Option ma_V), FQ 128 (oE t) (nE G) s E0 E' q' n' i 4 → i < n' → ma_J none mX7_floodEnds d 0 0 188 [some (vr 44), some (vr b), some (vi s), some (vi n'), some (vi i), y0, y1, y2, y3, y4, y5, y6] [] (ma_up (ma_up h 45 (ci 128 E')) 53 (ci 128 q')) nx Q := by
      intro E' q' n' y0 y1 y2 y3 y4 y5 y6 FF' hi'
      refine ma_iincN dX7_floodEnds_188 rfl (by decide) rfl ?_
      refine ma_goto 19 dX7_floodEnds_191 rfl ?_
      exact ih (i + 1) n' E' q' _ _ _ _ _ _ _ (by omega) (by omega) (by have hr := fq_room (nb_E hG) FF'; omega) (fq_next FF' hi' (by omega))
    refine ma_iload dX7_floodEnds_19 rfl ?_
    refine ma_iload_n dX7_floodEnds_21 rfl ?_
    refine ma_rcmp_ge 194 dX7_floodEnds_22 rfl (by constructor <;> omega) (by constructor <;> omega) (fun c22 => ?_) (fun c22 => ?_)
    · -- 194
      first | exact ma_vret dX7_floodEnds_194 rfl (K E q (fq_end (nb_E hG) R hs FF (by omega))) | (exfalso; have hr := fq_room (nb_E hG) FF; omega)
    · -- 25
      refine ma_iload dX7_floodEnds_25 rfl ?_
      refine ma_sipush dX7_floodEnds_27 ?_
      refine ma_rcmp_ge 194 dX7_floodEnds_30 rfl (by constructor <;> omega) (by constructor <;> omega) (fun c30 => ?_) (fun c30 => ?_)
      · -- 194
        first | exact ma_vret dX7_floodEnds_194 rfl (K E q (fq_end (nb_E hG) R hs FF (by omega))) | (exfalso; have hr := fq_room (nb_E hG) FF; omega)
      · -- 33
        have hr := fq_room (nb_E hG) FF
        have hq := (FF.2.1 i h0 (by omega)).1
        have hq2 := (nb_E hG).1 _ hq
        refine ma_aload_n dX7_floodEnds_33 rfl ?_
        refine ma_getf dX7_floodEnds_34 fX7_37 (by first | assumption | exact ma_up_s _ _ _ | (rw [ma_up_n (by first | assumption | decide)]; first | assumption | exact ma_up_s _ _ _ | (rw [ma_up_n (by first | assumption | decide)]; first | assumption | exact ma_up_s _ _ _))) (by rfl) ?_
        refine ma_iload dX7_floodEnds_37 rfl ?_
        refine ma_iald dX7_floodEnds_39 (by first | assumption | exact ma_up_s _ _ _ | (rw [ma_up_n (by first | assumption | decide)]; first | assumption | exact ma_up_s _ _ _ | (rw [ma_up_n (by first | assumption | decide)]; first | assumption | exact ma_up_s _ _ _))) (by omega) (by omega) (by omega) ?_
        refine ma_iconst dX7_floodEnds_40 ?_
        refine ma_kshr 16 dX7_floodEnds_41 (by decide) (by constructor <;> omega) ?_
        refine ma_istoreN dX7_floodEnds_42 (by decide) rfl ?_
        refine ma_aload_n dX7_floodEnds_44 rfl ?_
        refine ma_getf dX7_floodEnds_45 fX7_37 (by first | assumption | exact ma_up_s _ _ _ | (rw [ma_up_n (by first | assumption | decide)]; first | assumption | exact ma_up_s _ _ _ | (rw [ma_up_n (by first | assumption | decide)]; first | assumption | exact ma_up_s _ _ _))) (by rfl) ?_
        refine ma_iload dX7_floodEnds_48 rfl ?_
        refine ma_iald dX7_floodEnds_50 (by first | assumption | exact ma_up_s _ _ _ | (rw [ma_up_n (by first | assumption | decide)]; first | assumption | exact ma_up_s _ _ _ | (rw [ma_up_n (by first | assumption | decide)]; first | assumption | exact ma_up_s _ _ _))) (by omega) (by omega) (by omega) ?_
        refine ma_iconst dX7_floodEnds_51 ?_
        refine ma_kshr 4 dX7_floodEnds_52 (by decide) (by constructor <;> omega) ?_
        refine ma_iconst dX7_floodEnds_53 ?_
        refine ma_kand 2 4 dX7_floodEnds_54 (by decide) (by decide +kernel) (by decide) ?_
        refine ma_istoreN dX7_floodEnds_55 (by decide) rfl ?_
        refine ma_aload_n dX7_floodEnds_57 rfl ?_
        refine ma_getf dX7_floodEnds_58 fX7_37 (by first | assumption | exact ma_up_s _ _ _ | (rw [ma_up_n (by first | assumption | decide)]; first | assumption | exact ma_up_s _ _ _ | (rw [ma_up_n (by first | assumption | decide)]; first | assumption | exact ma_up_s _ _ _))) (by rfl) ?_
        refine ma_iload dX7_floodEnds_61 rfl ?_
        refine ma_iald dX7_floodEnds_63 (by first | assumption | exact ma_up_s _ _ _ | (rw [ma_up_n (by first | assumption | decide)]; first | assumption | exact ma_up_s _ _ _ | (rw [ma_up_n (by first | assumption | decide)]; first | assumption | exact ma_up_s _ _ _))) (by omega) (by omega) (by omega) ?_
        refine ma_iconst dX7_floodEnds_64 ?_
        refine ma_kand 2 4 dX7_floodEnds_65 (by decide) (by decide +kernel) (by decide) ?_
        refine ma_istoreN dX7_floodEnds_66 (by decide) rfl ?_
        refine ma_iconst dX7_floodEnds_68 ?_
        refine ma_istoreN dX7_floodEnds_69 (by decide) rfl ?_
        exact l_X7_floodEnds_71 ha hb hg n1 n2 n3 n4 hG R hs hq2 hq (fun E' q' n' xf x0 x1 x2 FF' hi' => KO2 E' q' n' _ _ _ _ _ _ _ FF' hi') 5 0 E q n _ _ _ (by omega) (by omega) (by omega) FF (by omega) rfl
theorem c_X7_floodEnds {h : ma_H} {b g nx d : Nat} {t ec pc s : Int} {G E0 : Int → Int} {Q : Option ma_V → ma_H → Nat → Prop} {q0 : Int → Int} (ha : h 44 = co 7 [vr 45, vr 46, vr 47, vr 48, vr 49, vr 50, vr 51, vr 52, vi ec, vi pc, vr 53]) (hb : h b = co 8 [vi t, vr g]) (hg : h g = ci 32 G) (n1 : b ≠ 45) (n2 : b ≠ 53) (n3 : g ≠ 45) (n4 : g ≠ 53) (hG : VG t G) (e1 : h 45 = ci 128 E0) (e2 : h 53 = ci 128 q0) (R : RI 128 (oE t) (nE G) E0 s) (hs : oE t s) (h0 : E0 s < 0) (K : ∀ E q, RI 128 (oE t) (nE G) E (s + 1) → Q none (ma_up (ma_up h 45 (ci 128 E)) 53 (ci 128 q)) nx) : ma_Ct mX7_floodEnds d 0 0 [vr 44, vr b, vi s] h nx Q := by
  have hs2 := (nb_E hG).1 _ hs
  refine ma_Ct.of (by decide +kernel) (Nat.le_of_ble_eq_true rfl) ?_
  refine ma_aload_n dX7_floodEnds_0 rfl ?_
  refine ma_getf dX7_floodEnds_1 fX7_11 (by first | assumption | exact ma_up_s _ _ _ | (rw [ma_up_n (by first | assumption | decide)]; first | assumption | exact ma_up_s _ _ _ | (rw [ma_up_n (by first | assumption | decide)]; first | assumption | exact ma_up_s _ _ _))) (by rfl) ?_
  refine ma_iload_n dX7_floodEnds_4 rfl ?_
  refine ma_iload_n dX7_floodEnds_5 rfl ?_
  refine ma_iast dX7_floodEnds_6 (by first | assumption | exact ma_up_s _ _ _ | (rw [ma_up_n (by first | assumption | decide)]; first | assumption | exact ma_up_s _ _ _ | (rw [ma_up_n (by first | assumption | decide)]; first | assumption | exact ma_up_s _ _ _))) (by omega) (by omega) (by omega) ?_
  refine ma_aload_n dX7_floodEnds_7 rfl ?_
  refine ma_getf dX7_floodEnds_8 fX7_37 (by first | assumption | exact ma_up_s _ _ _ | (rw [ma_up_n (by first | assumption | decide)]; first | assumption | exact ma_up_s _ _ _ | (rw [ma_up_n (by first | assumption | decide)]; first | assumption | exact ma_up_s _ _ _))) (by rfl) ?_
  refine ma_iconst dX7_floodEnds_11 ?_
  refine ma_iload_n dX7_floodEnds_12 rfl ?_
  refine ma_iast dX7_floodEnds_13 (by first | assumption | exact ma_up_s _ _ _ | (rw [ma_up_n (by first | assumption | decide)]; first | assumption | exact ma_up_s _ _ _ | (rw [ma_up_n (by first | assumption | decide)]; first | assumption | exact ma_up_s _ _ _))) (by omega) (by omega) (by omega) ?_
  refine ma_iconst dX7_floodEnds_14 ?_
  refine ma_istore_nN dX7_floodEnds_15 (by decide) rfl ?_
  refine ma_iconst dX7_floodEnds_16 ?_
  refine ma_istoreN dX7_floodEnds_17 (by decide) rfl ?_
  rw [show ma_up (ma_up h 45 (ci 128 (uf E0 s s))) 53 (ci 128 (uf q0 0 s)) = ma_up (ma_up h 45 (ci 128 (uf E0 s s))) 53 (ci 128 (uf q0 0 s)) from rfl]
  exact l_X7_floodEnds_19 ha hb hg n1 n2 n3 n4 hG R hs K 129 0 1 _ _ _ _ _ _ _ _ _ (by omega) (by omega) (by omega) (fq_0 (nb_E hG) hs h0 (uf_s _ _ _))
set_option maxHeartbeats 4000000 in
theorem l_X7_floodCorners_57 {h : ma_H} {b g nx d : Nat} {t ec pc s : Int} {G E0 : Int → Int} {Q : Option ma_V → ma_H → Nat → Prop} (ha : h 44 = co 7 [vr 45, vr 46, vr 47, vr 48, vr 49, vr 50, vr 51, vr 52, vi ec, vi pc, vr 53]) (hb : h b = co 8 [vi t, vr g]) (hg : h g = ci 32 G) (n1 : b ≠ 49) (n2 : b ≠ 53) (n3 : g ≠ 49) (n4 : g ≠ 53) (hG : VG t G) (R : RI 32 (oC t) (nC G) E0 s) (hs : oC t s) {i x : Int} (hx0 : 0 ≤ x ∧ x < 32) (hox : oC t x) (KO : ∀ (E q : Int → Int) (n : Int) (xf x0 x1 : Option ma_V), FQ 32 (oC t) (nC G) s E0 E q n i 4 → i < n → ma_J none mX7_floodCorners d 0 0 150 [some (vr 44), some (vr b), some (vi s), some (vi n), some (vi i), some (vi (x / 4)), some (vi (x % 4)), xf, x0, x1] [] (ma_up (ma_up h 49 (ci 32 E)) 53 (ci 128 q)) nx Q) :
    ∀ (m : Nat) (f : Int) (E q : Int → Int) (n : Int) (x0 x1 : Option ma_V), 0 ≤ f → f ≤ 4 → 4 - f < m → FQ 32 (oC t) (nC G) s E0 E q n i f → i < n → q i = x → ma_J none mX7_floodCorners d 0 0 57 [some (vr 44), some (vr b), some (vi s), some (vi n), some (vi i), some (vi (x / 4)), some (vi (x % 4)), some (vi f), x0, x1] [] (ma_up (ma_up h 49 (ci 32 E)) 53 (ci 128 q)) nx Q := by
  have ht := hG.1
  have hox2 := hox
  unfold oC at hox2
  intro m
  induction m with
  | zero => intro f E q n x0 x1 h0 h1 h2; omega
  | succ m ih =>
    intro f E q n x0 x1 h0 h3 h4 FF hi hx
    refine ma_iload dX7_floodCorners_57 rfl ?_
    refine ma_iconst dX7_floodCorners_59 ?_
    refine ma_rcmp_ge 150 dX7_floodCorners_60 rfl (by constructor <;> omega) (by constructor <;> omega) (fun c60 => ?_) (fun c60 => ?_)
    · -- 150
      have e4 : f = 4 := by omega
      rw [e4] at FF
      exact KO E q n _ _ _ FF hi
    · -- 63
      refine ma_aload_n dX7_floodCorners_63 rfl ?_
      refine ma_getf dX7_floodCorners_64 fX7_75 (by first | assumption | exact ma_up_s _ _ _ | (rw [ma_up_n (by first | assumption | decide)]; first | assumption | exact ma_up_s _ _ _ | (rw [ma_up_n (by first | assumption | decide)]; first | assumption | exact ma_up_s _ _ _))) (by rfl) ?_
      refine ma_iconst dX7_floodCorners_67 ?_
      refine ma_iload dX7_floodCorners_68 rfl ?_
      refine ma_imul dX7_floodCorners_70 ?_
      refine ma_iload dX7_floodCorners_71 rfl ?_
      refine ma_iadd dX7_floodCorners_73 ?_
      refine ma_iald dX7_floodCorners_74 (by first | assumption | exact ma_up_s _ _ _ | (rw [ma_up_n (by first | assumption | decide)]; first | assumption | exact ma_up_s _ _ _ | (rw [ma_up_n (by first | assumption | decide)]; first | assumption | exact ma_up_s _ _ _))) (by omega) (by omega) (by omega) ?_
      refine ma_istoreN dX7_floodCorners_75 (by decide) rfl ?_
      refine ma_iload dX7_floodCorners_77 rfl ?_
      refine ma_iload dX7_floodCorners_79 rfl ?_
      refine ma_rcmp_eq 144 dX7_floodCorners_81 rfl (by constructor <;> omega) (by constructor <;> omega) (fun c81 => ?_) (fun c81 => ?_)
      · -- 144
        refine ma_iincN dX7_floodCorners_144 rfl (by decide) rfl ?_
        refine ma_goto 57 dX7_floodCorners_147 rfl ?_
        first | exact ih (f + 1) E q n _ _ (by omega) (by omega) (by omega) (fq_skip FF (fun z => by rw [hx]; exact c122)) hi hx | (exact ih (f + 1) E q n _ _ (by omega) (by omega) (by omega) (fq_skip FF (fun z => by rw [hx] at z; unfold nC at z; rw [if_pos (by omega)] at z; omega)) hi hx) | exact ih (f + 1) _ _ (n + 1) _ _ (by omega) (by omega) (by omega) (by have w := fq_add (nb_C hG) FF hi h0 (by omega) (by rw [hx]; exact hk0) (by rw [hx]; omega); rw [hx] at w; exact w) (by omega) (by rw [uf_n (by omega)]; exact hx)
      · -- 84
        have hc := hG.2.1 (4 * (x / 4) + f) (by omega) (by omega)
        have hcr : -1 ≤ G (4 * (x / 4) + f) ∧ G (4 * (x / 4) + f) < 256 := by
          rcases hc with z | z <;> omega
        refine ma_iload dX7_floodCorners_84 rfl ?_
        refine ma_rif_ge 92 dX7_floodCorners_86 rfl (by constructor <;> omega) (fun c86 => ?_) (fun c86 => ?_)
        · -- 92
          have hc2 : 0 ≤ G (4 * (x / 4) + f) ∧ G (4 * (x / 4) + f) / 32 < t ∧ G (4 * (x / 4) + f) % 32 < 24 := by
            rcases hc with z | z
            · omega
            · exact ⟨z.1, z.2.1, z.2.2.1⟩
          have en : nC G f x = 4 * (G (4 * (x / 4) + f) / 32) + ma_tf 0 (4 * (G (4 * (x / 4) + f) % 32) + x % 4) := by
            unfold nC
            rw [if_neg (by omega)]
            rfl
          have hk0 : 0 ≤ nC G f x := by
            have i1 := im_in (show 0 ≤ G (4 * (x / 4) + f) % 32 by omega) hc2.2.2 (show 0 ≤ x % 4 by omega) (show x % 4 < 4 by omega)
            have i2 := im_in (show 0 ≤ G (4 * (x / 4) + f) % 32 by omega) hc2.2.2 (show 0 ≤ x / 4 % 4 by omega) (show x / 4 % 4 < 4 by omega)
            unfold nC
            rw [if_neg (by omega)]
            omega
          have hk := (nb_C hG).1 _ (((nb_C hG).2 x f hox h0 (by omega) hk0).1)
          refine ma_iconst dX7_floodCorners_92 ?_
          refine ma_iload dX7_floodCorners_93 rfl ?_
          refine ma_iconst dX7_floodCorners_95 ?_
          refine ma_kshr 32 dX7_floodCorners_96 (by decide) (by constructor <;> omega) ?_
          refine ma_imul dX7_floodCorners_97 ?_
          refine ma_getsN (j := 0) dX7_floodCorners_98 (by decide) gX7_78 ?_
          refine ma_iconst dX7_floodCorners_101 ?_
          refine ma_iload dX7_floodCorners_102 rfl ?_
          refine ma_bipush dX7_floodCorners_104 ?_
          refine ma_kand 5 32 dX7_floodCorners_106 (by decide) (by decide +kernel) (by decide) ?_
          refine ma_imul dX7_floodCorners_107 ?_
          refine ma_iload dX7_floodCorners_108 rfl ?_
          refine ma_iadd dX7_floodCorners_110 ?_
          refine ma_tald (j := 0) (n := 96) dX7_floodCorners_111 (by decide) tl_0 (by omega) (by omega) (by decide) ?_
          refine ma_iadd dX7_floodCorners_112 ?_
          rw [← en]
          refine ma_istoreN dX7_floodCorners_113 (by decide) rfl ?_
          refine ma_aload_n dX7_floodCorners_115 rfl ?_
          refine ma_getf dX7_floodCorners_116 fX7_25 (by first | assumption | exact ma_up_s _ _ _ | (rw [ma_up_n (by first | assumption | decide)]; first | assumption | exact ma_up_s _ _ _ | (rw [ma_up_n (by first | assumption | decide)]; first | assumption | exact ma_up_s _ _ _))) (by rfl) ?_
          refine ma_iload dX7_floodCorners_119 rfl ?_
          have hE : -1 ≤ E (nC G f x) ∧ E (nC G f x) ≤ 127 := by
            have hsN := (nb_C hG).1 _ hs
            have hR1 := R.1 _ (((nb_C hG).2 x f hox h0 (by omega) hk0).1)
            rcases FF.2.2.2.1 _ hk.1 hk.2 with z | ⟨z, -⟩ <;> omega
          refine ma_iald dX7_floodCorners_121 (by first | assumption | exact ma_up_s _ _ _ | (rw [ma_up_n (by first | assumption | decide)]; first | assumption | exact ma_up_s _ _ _ | (rw [ma_up_n (by first | assumption | decide)]; first | assumption | exact ma_up_s _ _ _))) (by omega) (by omega) (by omega) ?_
          refine ma_rif_ge 144 dX7_floodCorners_122 rfl (by constructor <;> omega) (fun c122 => ?_) (fun c122 => ?_)
          · -- 144
            refine ma_iincN dX7_floodCorners_144 rfl (by decide) rfl ?_
            refine ma_goto 57 dX7_floodCorners_147 rfl ?_
            first | exact ih (f + 1) E q n _ _ (by omega) (by omega) (by omega) (fq_skip FF (fun z => by rw [hx]; exact c122)) hi hx | (exact ih (f + 1) E q n _ _ (by omega) (by omega) (by omega) (fq_skip FF (fun z => by rw [hx] at z; unfold nC at z; rw [if_pos (by omega)] at z; omega)) hi hx) | exact ih (f + 1) _ _ (n + 1) _ _ (by omega) (by omega) (by omega) (by have w := fq_add (nb_C hG) FF hi h0 (by omega) (by rw [hx]; exact hk0) (by rw [hx]; omega); rw [hx] at w; exact w) (by omega) (by rw [uf_n (by omega)]; exact hx)
          · -- 125
            refine ma_aload_n dX7_floodCorners_125 rfl ?_
            refine ma_getf dX7_floodCorners_126 fX7_25 (by first | assumption | exact ma_up_s _ _ _ | (rw [ma_up_n (by first | assumption | decide)]; first | assumption | exact ma_up_s _ _ _ | (rw [ma_up_n (by first | assumption | decide)]; first | assumption | exact ma_up_s _ _ _))) (by rfl) ?_
            refine ma_iload dX7_floodCorners_129 rfl ?_
            refine ma_iload_n dX7_floodCorners_131 rfl ?_
            refine ma_iast dX7_floodCorners_132 (by first | assumption | exact ma_up_s _ _ _ | (rw [ma_up_n (by first | assumption | decide)]; first | assumption | exact ma_up_s _ _ _ | (rw [ma_up_n (by first | assumption | decide)]; first | assumption | exact ma_up_s _ _ _))) (by omega) (by omega) (by omega) ?_
            rw [fl_e (by decide)]
            have hr := fq_room (nb_C hG) (fq_add (nb_C hG) FF hi h0 (by omega) (by rw [hx]; exact hk0) (by rw [hx]; omega))
            have hn := FF.1
            refine ma_aload_n dX7_floodCorners_133 rfl ?_
            refine ma_getf dX7_floodCorners_134 fX7_37 (by first | assumption | exact ma_up_s _ _ _ | (rw [ma_up_n (by first | assumption | decide)]; first | assumption | exact ma_up_s _ _ _ | (rw [ma_up_n (by first | assumption | decide)]; first | assumption | exact ma_up_s _ _ _))) (by rfl) ?_
            refine ma_iload_n dX7_floodCorners_137 rfl ?_
            refine ma_iload dX7_floodCorners_138 rfl ?_
            refine ma_iast dX7_floodCorners_140 (by first | assumption | exact ma_up_s _ _ _ | (rw [ma_up_n (by first | assumption | decide)]; first | assumption | exact ma_up_s _ _ _ | (rw [ma_up_n (by first | assumption | decide)]; first | assumption | exact ma_up_s _ _ _))) (by omega) (by omega) (by omega) ?_
            rw [ma_up_up]
            refine ma_iincN dX7_floodCorners_141 rfl (by decide) rfl ?_
            refine ma_iincN dX7_floodCorners_144 rfl (by decide) rfl ?_
            refine ma_goto 57 dX7_floodCorners_147 rfl ?_
            first | exact ih (f + 1) E q n _ _ (by omega) (by omega) (by omega) (fq_skip FF (fun z => by rw [hx]; exact c122)) hi hx | (exact ih (f + 1) E q n _ _ (by omega) (by omega) (by omega) (fq_skip FF (fun z => by rw [hx] at z; unfold nC at z; rw [if_pos (by omega)] at z; omega)) hi hx) | exact ih (f + 1) _ _ (n + 1) _ _ (by omega) (by omega) (by omega) (by have w := fq_add (nb_C hG) FF hi h0 (by omega) (by rw [hx]; exact hk0) (by rw [hx]; omega); rw [hx] at w; exact w) (by omega) (by rw [uf_n (by omega)]; exact hx)
        · -- 89
          refine ma_goto 144 dX7_floodCorners_89 rfl ?_
          refine ma_iincN dX7_floodCorners_144 rfl (by decide) rfl ?_
          refine ma_goto 57 dX7_floodCorners_147 rfl ?_
          first | exact ih (f + 1) E q n _ _ (by omega) (by omega) (by omega) (fq_skip FF (fun z => by rw [hx]; exact c122)) hi hx | (exact ih (f + 1) E q n _ _ (by omega) (by omega) (by omega) (fq_skip FF (fun z => by rw [hx] at z; unfold nC at z; rw [if_pos (by omega)] at z; omega)) hi hx) | exact ih (f + 1) _ _ (n + 1) _ _ (by omega) (by omega) (by omega) (by have w := fq_add (nb_C hG) FF hi h0 (by omega) (by rw [hx]; exact hk0) (by rw [hx]; omega); rw [hx] at w; exact w) (by omega) (by rw [uf_n (by omega)]; exact hx)
set_option maxHeartbeats 4000000 in
theorem l_X7_floodCorners_19 {h : ma_H} {b g nx d : Nat} {t ec pc s : Int} {G E0 : Int → Int} {Q : Option ma_V → ma_H → Nat → Prop} (ha : h 44 = co 7 [vr 45, vr 46, vr 47, vr 48, vr 49, vr 50, vr 51, vr 52, vi ec, vi pc, vr 53]) (hb : h b = co 8 [vi t, vr g]) (hg : h g = ci 32 G) (n1 : b ≠ 49) (n2 : b ≠ 53) (n3 : g ≠ 49) (n4 : g ≠ 53) (hG : VG t G) (R : RI 32 (oC t) (nC G) E0 s) (hs : oC t s) (K : ∀ E q, RI 32 (oC t) (nC G) E (s + 1) → Q none (ma_up (ma_up h 49 (ci 32 E)) 53 (ci 128 q)) nx) :
    ∀ (m : Nat) (i n : Int) (E q : Int → Int) (y0 y1 y2 y3 y4 : Option ma_V), 0 ≤ i → i ≤ n → 32 - i < m → FQ 32 (oC t) (nC G) s E0 E q n i 0 → ma_J none mX7_floodCorners d 0 0 19 [some (vr 44), some (vr b), some (vi s), some (vi n), some (vi i), y0, y1, y2, y3, y4] [] (ma_up (ma_up h 49 (ci 32 E)) 53 (ci 128 q)) nx Q := by
  have ht := hG.1
  intro m
  induction m with
  | zero => intro i n E q y0 y1 y2 y3 y4 h0 h1 h2 FF; have hr := fq_room (nb_C hG) FF; omega
  | succ m ih =>
    intro i n E q y0 y1 y2 y3 y4 h0 h3 h4 FF
    have hr := fq_room (nb_C hG) FF
    have KO2 : ∀ (E' q' : Int → Int) (n' : Int) (y0 y1 y2 y3 y4 : Option ma_V), FQ 32 (oC t) (nC G) s E0 E' q' n' i 4 → i < n' → ma_J none mX7_floodCorners d 0 0 150 [some (vr 44), some (vr b), some (vi s), some (vi n'), some (vi i), y0, y1, y2, y3, y4] [] (ma_up (ma_up h 49 (ci 32 E')) 53 (ci 128 q')) nx Q := by
      intro E' q' n' y0 y1 y2 y3 y4 FF' hi'
      refine ma_iincN dX7_floodCorners_150 rfl (by decide) rfl ?_
      refine ma_goto 19 dX7_floodCorners_153 rfl ?_
      exact ih (i + 1) n' E' q' _ _ _ _ _ (by omega) (by omega) (by have hr := fq_room (nb_C hG) FF'; omega) (fq_next FF' hi' (by omega))
    refine ma_iload dX7_floodCorners_19 rfl ?_
    refine ma_iload_n dX7_floodCorners_21 rfl ?_
    refine ma_rcmp_ge 156 dX7_floodCorners_22 rfl (by constructor <;> omega) (by constructor <;> omega) (fun c22 => ?_) (fun c22 => ?_)
    · -- 156
      first | exact ma_vret dX7_floodCorners_156 rfl (K E q (fq_end (nb_C hG) R hs FF (by omega))) | (exfalso; have hr := fq_room (nb_C hG) FF; omega)
    · -- 25
      refine ma_iload dX7_floodCorners_25 rfl ?_
      refine ma_bipush dX7_floodCorners_27 ?_
      refine ma_rcmp_ge 156 dX7_floodCorners_29 rfl (by constructor <;> omega) (by constructor <;> omega) (fun c29 => ?_) (fun c29 => ?_)
      · -- 156
        first | exact ma_vret dX7_floodCorners_156 rfl (K E q (fq_end (nb_C hG) R hs FF (by omega))) | (exfalso; have hr := fq_room (nb_C hG) FF; omega)
      · -- 32
        have hr := fq_room (nb_C hG) FF
        have hq := (FF.2.1 i h0 (by omega)).1
        have hq2 := (nb_C hG).1 _ hq
        refine ma_aload_n dX7_floodCorners_32 rfl ?_
        refine ma_getf dX7_floodCorners_33 fX7_37 (by first | assumption | exact ma_up_s _ _ _ | (rw [ma_up_n (by first | assumption | decide)]; first | assumption | exact ma_up_s _ _ _ | (rw [ma_up_n (by first | assumption | decide)]; first | assumption | exact ma_up_s _ _ _))) (by rfl) ?_
        refine ma_iload dX7_floodCorners_36 rfl ?_
        refine ma_iald dX7_floodCorners_38 (by first | assumption | exact ma_up_s _ _ _ | (rw [ma_up_n (by first | assumption | decide)]; first | assumption | exact ma_up_s _ _ _ | (rw [ma_up_n (by first | assumption | decide)]; first | assumption | exact ma_up_s _ _ _))) (by omega) (by omega) (by omega) ?_
        refine ma_iconst dX7_floodCorners_39 ?_
        refine ma_kshr 4 dX7_floodCorners_40 (by decide) (by constructor <;> omega) ?_
        refine ma_istoreN dX7_floodCorners_41 (by decide) rfl ?_
        refine ma_aload_n dX7_floodCorners_43 rfl ?_
        refine ma_getf dX7_floodCorners_44 fX7_37 (by first | assumption | exact ma_up_s _ _ _ | (rw [ma_up_n (by first | assumption | decide)]; first | assumption | exact ma_up_s _ _ _ | (rw [ma_up_n (by first | assumption | decide)]; first | assumption | exact ma_up_s _ _ _))) (by rfl) ?_
        refine ma_iload dX7_floodCorners_47 rfl ?_
        refine ma_iald dX7_floodCorners_49 (by first | assumption | exact ma_up_s _ _ _ | (rw [ma_up_n (by first | assumption | decide)]; first | assumption | exact ma_up_s _ _ _ | (rw [ma_up_n (by first | assumption | decide)]; first | assumption | exact ma_up_s _ _ _))) (by omega) (by omega) (by omega) ?_
        refine ma_iconst dX7_floodCorners_50 ?_
        refine ma_kand 2 4 dX7_floodCorners_51 (by decide) (by decide +kernel) (by decide) ?_
        refine ma_istoreN dX7_floodCorners_52 (by decide) rfl ?_
        refine ma_iconst dX7_floodCorners_54 ?_
        refine ma_istoreN dX7_floodCorners_55 (by decide) rfl ?_
        exact l_X7_floodCorners_57 ha hb hg n1 n2 n3 n4 hG R hs hq2 hq (fun E' q' n' xf x0 x1 FF' hi' => KO2 E' q' n' _ _ _ _ _ FF' hi') 5 0 E q n _ _ (by omega) (by omega) (by omega) FF (by omega) rfl
theorem c_X7_floodCorners {h : ma_H} {b g nx d : Nat} {t ec pc s : Int} {G E0 : Int → Int} {Q : Option ma_V → ma_H → Nat → Prop} {q0 : Int → Int} (ha : h 44 = co 7 [vr 45, vr 46, vr 47, vr 48, vr 49, vr 50, vr 51, vr 52, vi ec, vi pc, vr 53]) (hb : h b = co 8 [vi t, vr g]) (hg : h g = ci 32 G) (n1 : b ≠ 49) (n2 : b ≠ 53) (n3 : g ≠ 49) (n4 : g ≠ 53) (hG : VG t G) (e1 : h 49 = ci 32 E0) (e2 : h 53 = ci 128 q0) (R : RI 32 (oC t) (nC G) E0 s) (hs : oC t s) (h0 : E0 s < 0) (K : ∀ E q, RI 32 (oC t) (nC G) E (s + 1) → Q none (ma_up (ma_up h 49 (ci 32 E)) 53 (ci 128 q)) nx) : ma_Ct mX7_floodCorners d 0 0 [vr 44, vr b, vi s] h nx Q := by
  have hs2 := (nb_C hG).1 _ hs
  refine ma_Ct.of (by decide +kernel) (Nat.le_of_ble_eq_true rfl) ?_
  refine ma_aload_n dX7_floodCorners_0 rfl ?_
  refine ma_getf dX7_floodCorners_1 fX7_25 (by first | assumption | exact ma_up_s _ _ _ | (rw [ma_up_n (by first | assumption | decide)]; first | assumption | exact ma_up_s _ _ _ | (rw [ma_up_n (by first | assumption | decide)]; first | assumption | exact ma_up_s _ _ _))) (by rfl) ?_
  refine ma_iload_n dX7_floodCorners_4 rfl ?_
  refine ma_iload_n dX7_floodCorners_5 rfl ?_
  refine ma_iast dX7_floodCorners_6 (by first | assumption | exact ma_up_s _ _ _ | (rw [ma_up_n (by first | assumption | decide)]; first | assumption | exact ma_up_s _ _ _ | (rw [ma_up_n (by first | assumption | decide)]; first | assumption | exact ma_up_s _ _ _))) (by omega) (by omega) (by omega) ?_
  refine ma_aload_n dX7_floodCorners_7 rfl ?_
  refine ma_getf dX7_floodCorners_8 fX7_37 (by first | assumption | exact ma_up_s _ _ _ | (rw [ma_up_n (by first | assumption | decide)]; first | assumption | exact ma_up_s _ _ _ | (rw [ma_up_n (by first | assumption | decide)]; first | assumption | exact ma_up_s _ _ _))) (by rfl) ?_
  refine ma_iconst dX7_floodCorners_11 ?_
  refine ma_iload_n dX7_floodCorners_12 rfl ?_
  refine ma_iast dX7_floodCorners_13 (by first | assumption | exact ma_up_s _ _ _ | (rw [ma_up_n (by first | assumption | decide)]; first | assumption | exact ma_up_s _ _ _ | (rw [ma_up_n (by first | assumption | decide)]; first | assumption | exact ma_up_s _ _ _))) (by omega) (by omega) (by omega) ?_
  refine ma_iconst dX7_floodCorners_14 ?_
  refine ma_istore_nN dX7_floodCorners_15 (by decide) rfl ?_
  refine ma_iconst dX7_floodCorners_16 ?_
  refine ma_istoreN dX7_floodCorners_17 (by decide) rfl ?_
  rw [show ma_up (ma_up h 49 (ci 32 (uf E0 s s))) 53 (ci 128 (uf q0 0 s)) = ma_up (ma_up h 49 (ci 32 (uf E0 s s))) 53 (ci 128 (uf q0 0 s)) from rfl]
  exact l_X7_floodCorners_19 ha hb hg n1 n2 n3 n4 hG R hs K 33 0 1 _ _ _ _ _ _ _ (by omega) (by omega) (by omega) (fq_0 (nb_C hG) hs h0 (uf_s _ _ _))
