theorem hm_j {t : Int} {G : Int → Int} {a : Int} {X : Int → Prop} {nw : Int → Int} {s t' : Int} {H T C go gl : Int → Int} {gm : Int} {cl : Int → Int} {cm : Int} {la : Int → Int} {e : Int} {ix jn nu M Sg : Int → Int} {cu : Int → Int} (hcf : CFG t G a X nw s t' H T C go gl gm cl cm la e ix jn nu M Sg) (hcu : ∀ y, 0 ≤ y → y < 4 → ¬ X y → cu (jn y) = la y) {i f : Int} (i0 : 0 ≤ i) (i1 : i < gm) (f0 : 0 ≤ f) (f1 : f < 4) (hH : 0 ≤ H (4 * go i + f)) :
    ∃ y ku, (0 ≤ jn y ∧ jn y < cm) ∧ M (H (4 * go i + f)) = s + jn y ∧ LT gl i ku ∧ (0 ≤ (tau H T Sg (4 * go i + f)) ∧ (tau H T Sg (4 * go i + f)) < 24) ∧ mk5 (cu (jn y)) (cl (4 * jn y + im (tau H T Sg (4 * go i + f)) f)) = mk5 ku (gl (4 * i + f)) ∧ (∀ j' f', 0 ≤ j' → j' < cm → 0 ≤ f' → f' < 4 → mk5 (cu j') (cl (4 * j' + f')) = mk5 ku (gl (4 * i + f)) → j' = jn y ∧ f' = im (tau H T Sg (4 * go i + f)) f) ∧ ∀ d, 0 ≤ d → d < 4 → d ≠ f → cl (4 * jn y + im (tau H T Sg (4 * go i + f)) d) = gl (4 * i + d) := by
  obtain ⟨y, κ, ku, ⟨y0, y1, hy, -, eM⟩, ht, hL, hLy, eκ, -, hor, hmt, hno, hd, hu⟩ := hm_f hcf i0 i1 f0 f1 hH
  have c := cfg_n hcf y0 y1 hy
  refine ⟨y, ku, c.1, eM, hL, ht, ?_, fun j' f' j0 j1 f0' f1' z => ?_, hd⟩
  · have e1 : κ = la y := by
      rcases hor with z | z
      · exact z
      · exact (hno z).elim
    rw [hcu y y0 y1 hy, hmt e1, eκ, e1]
    have w := hLy.1
    exact (mk5_eq w hL.1 hL.1 w (fun z => hno z.symm) (fun z => hno z)).mpr (Or.inr ⟨rfl, rfl⟩)
  · obtain ⟨y', y0', y1', hy', ej⟩ := hcf.2.2.2.2.2.1.2.2.2 j' j0 j1
    rw [← ej, hcu y' y0' y1' hy', eκ] at z
    obtain ⟨z1, z2⟩ := hu y' f' y0' y1' hy' f0' f1' z
    exact ⟨by rw [← ej, z1], z2⟩
/-- what a face of the going ones gives -/
def DF (G : Int → Int) (a : Int) (X : Int → Prop) (H T M Sg : Int → Int) (F k : Int) : Prop := 0 ≤ H F ∧ 0 ≤ G F ∧ (k = mpos H T M Sg F ∨ (¬ gS G a X (G F / 32) ∧ k = mpos H T M Sg (pt G F)))
set_option maxHeartbeats 2000000 in
theorem c_outC {h : ma_H} {b nx d : Nat} {i f : Int} {V TH pf cu MV Aa : Int → Int} {Q : Option ma_V → ma_H → Nat → Prop} {I : Nat → Int} {D : Int → Prop} {t : Int} {G : Int → Int} {a : Int} {X : Int → Prop} {nw : Int → Int} {s t' : Int} {H T C go gl : Int → Int} {gm : Int} {cl : Int → Int} {cm : Int} {la : Int → Int} {e : Int} {ix jn nu M Sg : Int → Int} {Mi : Int → Int} (hcf : CFG t G a X nw s t' H T C go gl gm cl cm la e ix jn nu M Sg) (hi : MIV X nw s jn Mi) (hcu : ∀ y, 0 ≤ y → y < 4 → ¬ X y → cu (jn y) = la y) (hM : h 73 = co 12 (mo I)) (h77 : h 77 = ci 64 pf) (hf : PB pf) (h92 : h 92 = ci 4 go) (h93 : h 93 = ci 16 gl) (h94 : h 94 = ci 16 cl) (h95 : h 95 = ci 8 MV) (hb : h b = ci 33 Aa) (nb : b ≠ 84 ∧ b ≠ 96) (hgm : I 32 = gm) (hcm : I 34 = cm) (hA : AG t G Aa) (hMV : ∀ n, 0 ≤ n → n < t → ¬ gS G a X n → MV n = sty (gS G a X) n) (i0 : 0 ≤ i) (i1 : i < gm) (f0 : 0 ≤ f) (f1 : f < 4) (hP : PT (CMd t' C M Mi Sg) TH D) (K : ∀ V' TH', TH' 0 = TH 0 → PT (CMd t' C M Mi Sg) TH' (fun k => D k ∨ DF G a X H T M Sg (4 * go i + f) k) → Q none (ma_up (ma_up h 84 (ci 4 V')) 96 (ci 33 TH')) nx) : ma_Ct mX12_outside (d + 2) 0 0 [vr 73, vr b, vi s, vi i, vi f] (ma_up (ma_up h 84 (ci 4 V)) 96 (ci 33 TH)) nx Q := by
  have q := cfg_s hcf
  have hG := hcf.1
  obtain ⟨gs, g0, g1⟩ := go_S hcf i0 i1
  have e4 : (4 * go i + f) / 4 = go i := by omega
  have e5 : (4 * go i + f) % 4 = f := by omega
  have F0 : 0 ≤ (4 * go i + f) := by omega
  have F1 : (4 * go i + f) < 4 * t := by omega
  have eA : Aa (1 + 4 * go i + f) = cv (G (4 * go i + f)) := by rw [show 1 + 4 * go i + f = 1 + (4 * go i + f) by omega]; exact hA.2 _ F0 (by omega)
  rcases Int.lt_or_le (H (4 * go i + f)) 0 with z | hH
  · obtain ⟨ku, hL, hno⟩ := hm_n hcf i0 i1 f0 f1 z
    refine c_out0 (g := 0) hM h77 hf h92 h93 h94 h95 hb nb hgm hcm ⟨q.2.2.2.2.2.2.2.2.2.1, q.2.2.2.2.2.2.2.2.2.2⟩ ⟨q.2.2.2.2.1, q.2.2.2.2.2.1⟩ (fun i i0 i1 => by have := go_S hcf i0 i1; omega) (lt_j hcf hcu) hL ⟨i0, i1⟩ ⟨f0, f1⟩ ⟨q.1, by omega⟩ (fun j' f' j0 j1 f0' f1' w => ?_) (K V TH rfl (pt_mono hP (fun k hk => hk.elim (fun x => x) (fun x => by have := x.1; omega))))
    obtain ⟨y', y0', y1', hy', ej⟩ := hcf.2.2.2.2.2.1.2.2.2 j' j0 j1
    rw [← ej, hcu y' y0' y1' hy'] at w
    exact hno y' f' y0' y1' hy' f0' f1' w
  · obtain ⟨y, ku, jy0, eM, hL, ht, hm, hu, hd⟩ := hm_j hcf hcu i0 i1 f0 f1 hH
    have wf := im_in ht.1 ht.2 f0 f1
    have em : 4 * (s + jn y) + im (tau H T Sg (4 * go i + f)) f = mpos H T M Sg (4 * go i + f) := by
      unfold mpos
      rw [eM, e5]
    have ta := tau_in hcf hi F0 F1 hH
    rcases Int.lt_or_le (G (4 * go i + f)) 0 with g | g
    · exact c_out1 (g := 0) hM h77 hf h92 h93 h94 h95 hb nb hgm hcm ⟨q.2.2.2.2.2.2.2.2.2.1, q.2.2.2.2.2.2.2.2.2.2⟩ ⟨q.2.2.2.2.1, q.2.2.2.2.2.1⟩ (fun i i0 i1 => by have := go_S hcf i0 i1; omega) (lt_j hcf hcu) hL ⟨i0, i1⟩ ⟨f0, f1⟩ ⟨q.1, by omega⟩ jy0 wf hm hu (by rw [eA]; exact cv_n g) (K V TH rfl (pt_mono hP (fun k hk => hk.elim (fun x => x) (fun x => by have := x.2.1; omega))))
    · obtain ⟨mq0, hH', mM, cm0, cmv⟩ := mq_in hcf hi F0 F1 hH g
      obtain ⟨p0, p1, p2, p3, p4, p5, p6, p7, p8⟩ := pt_pt hG F0 F1 g
      rw [e5] at p3
      have gb := vg_in hG F0 (by omega)
      have cd : 0 ≤ G (4 * go i + f) ∧ G (4 * go i + f) < 256 ∧ G (4 * go i + f) % 32 < 24 := ⟨g, gb.2.1, p5⟩
      have vt := iv_in ht.1 ht.2
      have t2 := (tau_in hcf hi p0 p1 hH').1
      have kk := af_in p4 p5 vt.1 vt.2
      have qim : ∀ d, 0 ≤ d → d < 4 → im (mq G H T Sg (4 * go i + f)) (im (tau H T Sg (4 * go i + f)) d) = im (tau H T Sg (pt G (4 * go i + f))) (im (G (4 * go i + f) % 32) d) := fun d d0 d1 => by
        have w := im_in ht.1 ht.2 d0 d1
        unfold mq
        rw [im_af t2.1 t2.2 kk.1 kk.2 w.1 w.2, im_af p4 p5 vt.1 vt.2 w.1 w.2, (im_mi ht.1 ht.2 d0 d1).1]
      by_cases w : gS G a X (G (4 * go i + f) / 32)
      · obtain ⟨io, io0, io1, eio⟩ := go_ex hcf w
        have wp := im_in p4 p5 f0 f1
        have eF' : 4 * go io + im (G (4 * go i + f) % 32) f = pt G (4 * go i + f) := by omega
        obtain ⟨y', ko, jo0, eM', hL', ht', hm', hu', hd'⟩ := hm_j hcf hcu io0 io1 wp.1 wp.2 (by rw [eF']; exact hH')
        rw [eF'] at eM' ht' hm' hu' hd'
        have wf' := im_in ht'.1 ht'.2 wp.1 wp.2
        refine c_outG hM h77 hf h92 h93 h94 h95 hb nb hgm hcm ⟨q.2.2.2.2.2.2.2.2.2.1, q.2.2.2.2.2.2.2.2.2.2⟩ ⟨q.2.2.2.2.1, q.2.2.2.2.2.1⟩ (fun i i0 i1 => by have := go_S hcf i0 i1; omega) (lt_j hcf hcu) hL ⟨i0, i1⟩ ⟨f0, f1⟩ ⟨q.1, by omega⟩ jy0 wf hm hu eA cd ⟨io0, io1⟩ (fun i' a0 a1 => ⟨fun z => go_in hcf a0 a1 io0 io1 (by rw [z, eio]), fun z => by rw [z]; exact eio⟩) hL' jo0 wf' hm' hu' mq0 (qim f f0 f1) (fun c c0 c1 cn => ?_) (fun V' => ?_)
        · have we := im_in vt.1 vt.2 c0 c1
          have e2 := (im_mi ht.1 ht.2 c0 c1).2
          have nf : im (iv (tau H T Sg (4 * go i + f))) c ≠ f := fun z => cn (by have y2 := e2; rw [z] at y2; exact y2.symm)
          refine ⟨im (iv (tau H T Sg (4 * go i + f))) c, we.1, we.2, ?_, ?_⟩
          · rw [← hd _ we.1 we.2 nf, e2]
          · have q1 := qim _ we.1 we.2
            rw [e2] at q1
            have wpe := im_in p4 p5 we.1 we.2
            rw [q1]
            exact hd' _ wpe.1 wpe.2 (fun z => nf (im_ij p4 p5 we.1 we.2 f0 f1 z))
        · refine K V' _ (uf_n (by omega)) ?_
          rw [show 1 + 4 * (s + jn y) + im (tau H T Sg (4 * go i + f)) f = 1 + mpos H T M Sg (4 * go i + f) by omega]
          refine pt_put hP ta.2.1.1 (by omega) cm0 ?_ (fun k hk => hk.elim Or.inl (fun x => x.2.2.elim Or.inr (fun z => absurd w z.1)))
          rw [cmv, ← eM']
          rfl
      · have mvv := hMV (G (4 * go i + f) / 32) (by omega) (by omega) w
        obtain ⟨s1, s2, s3, s4, s5, s6⟩ := st_F hcf p0 p1 (by rw [p2]; exact w)
        rw [p2] at s1 s6
        rw [p3] at s6
        have eMV : MV (G (4 * go i + f) / 32) = M (H (pt G (4 * go i + f))) := by rw [mvv, s4, s1]
        have wp := im_in p4 p5 f0 f1
        have qim2 : ∀ d, 0 ≤ d → d < 4 → im (mq G H T Sg (4 * go i + f)) (im (tau H T Sg (4 * go i + f)) d) = im (G (4 * go i + f) % 32) d := fun d d0 d1 => by
          have w2 := im_in p4 p5 d0 d1
          rw [qim d d0 d1, s5, im_id w2.1 w2.2]
        refine c_outS hM h77 hf h92 h93 h94 h95 hb nb hgm hcm ⟨q.2.2.2.2.2.2.2.2.2.1, q.2.2.2.2.2.2.2.2.2.2⟩ ⟨q.2.2.2.2.1, q.2.2.2.2.2.1⟩ (fun i i0 i1 => by have := go_S hcf i0 i1; omega) (lt_j hcf hcu) hL ⟨i0, i1⟩ ⟨f0, f1⟩ ⟨q.1, by omega⟩ jy0 wf hm hu eA cd (fun i' a0 a1 z => w (by rw [← z]; exact (go_S hcf a0 a1).1)) (by rw [eMV]; omega) mq0 (qim2 f f0 f1) (fun c c0 c1 cn => ?_) (fun V' => ?_)
        · have we := im_in vt.1 vt.2 c0 c1
          have e2 := (im_mi ht.1 ht.2 c0 c1).2
          have nf : im (iv (tau H T Sg (4 * go i + f))) c ≠ f := fun z => cn (by have y2 := e2; rw [z] at y2; exact y2.symm)
          refine ⟨im (iv (tau H T Sg (4 * go i + f))) c, we.1, we.2, ?_, ?_⟩
          · rw [← hd _ we.1 we.2 nf, e2]
          · have q1 := qim2 _ we.1 we.2
            rw [e2] at q1
            exact q1.symm
        · refine K V' _ (by rw [uf_n (by omega), uf_n (by omega)]) ?_
          have em2 : 4 * MV (G (4 * go i + f) / 32) + im (G (4 * go i + f) % 32) f = mpos H T M Sg (pt G (4 * go i + f)) := by rw [mvv, s6]
          rw [show 1 + 4 * (s + jn y) + im (tau H T Sg (4 * go i + f)) f = 1 + mpos H T M Sg (4 * go i + f) by omega, show 1 + 4 * MV (G (4 * go i + f) / 32) + im (G (4 * go i + f) % 32) f = 1 + mpos H T M Sg (pt G (4 * go i + f)) by omega]
          have ta2 := tau_in hcf hi p0 p1 hH'
          have gp : 0 ≤ G (pt G (4 * go i + f)) := by have := iv_in p4 p5; omega
          obtain ⟨-, -, -, cm0', cmv'⟩ := mq_in hcf hi p0 p1 hH' gp
          have P1 := pt_put (D' := fun k => D k ∨ k = mpos H T M Sg (4 * go i + f)) hP ta.2.1.1 (by omega) cm0 (v := 24 * MV (G (4 * go i + f) / 32) + mq G H T Sg (4 * go i + f)) (by rw [cmv, eMV]; rfl) (fun k hk => hk)
          refine pt_put P1 ta2.2.1.1 (by omega) cm0' ?_ (fun k hk => hk.elim (fun x => Or.inl (Or.inl x)) (fun x => x.2.2.elim (fun z => Or.inl (Or.inr z)) (fun z => Or.inr z.2)))
          rw [cmv', mq_pt hcf hi F0 F1 hH g, eM]
