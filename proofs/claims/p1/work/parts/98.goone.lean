def mlen : Nat → Nat
  | 78 => 8
  | 79 => 32
  | 80 => 8
  | 81 => 33
  | 82 => 33
  | 83 => 32
  | 84 => 4
  | 86 => 128
  | 87 => 32
  | 92 => 4
  | 93 => 16
  | 94 => 16
  | 95 => 8
  | 96 => 33
  | 97 => 4
  | 98 => 4
  | _ => 0
/-- the model's things for moves stand -/
def SMO (h : ma_H) : Prop := (∀ k, 0 < mlen k → ∃ f, h k = ci (mlen k) f) ∧ ∃ pf, h 77 = ci 64 pf ∧ PB pf
theorem smo_n {h : ma_H} {k : Nat} {c : ma_C} (hk : mlen k = 0) (h7 : k ≠ 77) (s : SMO h) : SMO (ma_up h k c) := by
  refine ⟨fun j hj => ?_, ?_⟩
  · obtain ⟨f, e⟩ := s.1 j hj
    exact ⟨f, (ma_up_n (fun z => by rw [z] at hj; omega)).trans e⟩
  · obtain ⟨pf, e, p⟩ := s.2
    exact ⟨pf, (ma_up_n (Ne.symm h7)).trans e, p⟩
theorem smo_a {h : ma_H} {k : Nat} {f : Int → Int} {n : Nat} (hk : mlen k = n) (h7 : k ≠ 77) (s : SMO h) : SMO (ma_up h k (ci n f)) := by
  refine ⟨fun j hj => ?_, ?_⟩
  · by_cases z : j = k
    · rw [z, hk]; exact ⟨f, ma_up_s _ _ _⟩
    · obtain ⟨g, e⟩ := s.1 j hj
      exact ⟨g, (ma_up_n z).trans e⟩
  · obtain ⟨pf, e, p⟩ := s.2
    exact ⟨pf, (ma_up_n (Ne.symm h7)).trans e, p⟩
/-- the ints that moves change -/
def KI (I I' : Nat → Int) : Prop := ∀ k, k ≠ 12 → k ≠ 32 → k ≠ 34 → I' k = I k
theorem ki_rf (I : Nat → Int) : KI I I := fun _ _ _ _ => rfl
theorem ki_u {I I' : Nat → Int} {k : Nat} {x : Int} (h : KI I I') (hk : k = 12 ∨ k = 32 ∨ k = 34) : KI I (iu I' k x) := fun j a b c => by
  rw [iu_n (by omega)]
  exact h j a b c
theorem ki_tr {I I' I'' : Nat → Int} (h : KI I I') (h' : KI I' I'') : KI I I'' := fun j a b c => (h' j a b c).trans (h j a b c)
abbrev mvl : List Nat := [73, 78, 79, 80, 81, 82, 83, 84, 86, 87, 92, 93, 94, 95, 96, 97, 98]
/-- how the model stands behind a piece of a move on the row at b -/
def MP (h h' : ma_H) (b : Nat) (I I' : Nat → Int) : Prop := kp h h' (b :: mvl) ∧ h' 73 = co 12 (mo I') ∧ KI I I' ∧ SMO h'
theorem cfg_mk {t : Int} {G : Int → Int} {a : Int} {X : Int → Prop} {nw : Int → Int} {s t' : Int} {H T C go gl : Int → Int} {gm : Int} {cl : Int → Int} {cm : Int} {la : Int → Int} {e : Int} {ix jn nu : Int → Int} (hG : VG t G) (h1 : FL t G a X nw s t') (h2 : FU t G a X nw H T) (h3 : FC G t X nw H T C) (h4 : LFG G a X go gl gm la e ix) (h5 : LCG X cl cm la e jn nu) (h6 : t' = s + cm) :
    ∃ M Sg Mi cu : Int → Int, CFG t G a X nw s t' H T C go gl gm cl cm la e ix jn nu M Sg ∧ MIV X nw s jn Mi ∧ ∀ y, 0 ≤ y → y < 4 → ¬ X y → cu (jn y) = la y := by
  let W : Int → Int → Prop := fun n y => 0 ≤ y ∧ y < 4 ∧ ¬ X y ∧ nw y = n
  let Z : Int → Int → Prop := fun j y => 0 ≤ y ∧ y < 4 ∧ ¬ X y ∧ jn y = j
  have uw : ∀ y, 0 ≤ y → y < 4 → ¬ X y → ∀ hx : ∃ y', W (nw y) y', Classical.choose hx = y := fun y y0 y1 hy hx => by
    obtain ⟨c0, c1, c2, c3⟩ := Classical.choose_spec hx
    exact h1.2.2.2.2.1 _ _ c0 c1 y0 y1 c2 hy c3
  have uz : ∀ y, 0 ≤ y → y < 4 → ¬ X y → ∀ hx : ∃ y', Z (jn y) y', Classical.choose hx = y := fun y y0 y1 hy hx => by
    obtain ⟨c0, c1, c2, c3⟩ := Classical.choose_spec hx
    exact h5.2.2.1 _ _ c0 c1 y0 y1 c2 hy c3
  have sw : ∀ y, 0 ≤ y → y < 4 → ¬ X y → s ≤ nw y := fun y y0 y1 hy => (h1.2.2.2.1 y y0 y1 hy).1
  have sj : ∀ y, 0 ≤ y → y < 4 → ¬ X y → 0 ≤ jn y := fun y y0 y1 hy => (h5.2.1 y y0 y1 hy).1
  refine ⟨fun n => @dite _ (n < s) (Classical.propDecidable _) (fun _ => n) (fun _ => @dite _ (∃ y, W n y) (Classical.propDecidable _) (fun hx => s + jn (Classical.choose hx)) (fun _ => n)), fun n => @dite _ (n < s) (Classical.propDecidable _) (fun _ => 0) (fun _ => @dite _ (∃ y, W n y) (Classical.propDecidable _) (fun hx => nu (Classical.choose hx)) (fun _ => 0)), fun n => @dite _ (n < s) (Classical.propDecidable _) (fun _ => n) (fun _ => @dite _ (∃ y, Z (n - s) y) (Classical.propDecidable _) (fun hx => nw (Classical.choose hx)) (fun _ => n)), fun j => @dite _ (∃ y, Z j y) (Classical.propDecidable _) (fun hx => la (Classical.choose hx)) (fun _ => 0), ⟨hG, h1, h2, h3, h4, h5, h6, fun n n0 n1 => ⟨dif_pos n1, dif_pos n1⟩, fun y y0 y1 hy => ?_⟩, ⟨fun n n0 n1 => dif_pos n1, fun y y0 y1 hy => ?_⟩, fun y y0 y1 hy => ?_⟩
  · have hx : ∃ y', W (nw y) y' := ⟨y, y0, y1, hy, rfl⟩
    have l := sw y y0 y1 hy
    refine ⟨?_, ?_⟩
    · exact (dif_neg (show ¬ nw y < s by omega)).trans ((dif_pos hx).trans (by rw [uw y y0 y1 hy hx]))
    · exact (dif_neg (show ¬ nw y < s by omega)).trans ((dif_pos hx).trans (by rw [uw y y0 y1 hy hx]))
  · have e : s + jn y - s = jn y := by omega
    have hx : ∃ y', Z (s + jn y - s) y' := ⟨y, y0, y1, hy, e.symm⟩
    have l := sj y y0 y1 hy
    refine (dif_neg (show ¬ s + jn y < s by omega)).trans ((dif_pos hx).trans ?_)
    obtain ⟨c0, c1, c2, c3⟩ := Classical.choose_spec hx
    rw [h5.2.2.1 _ _ c0 c1 y0 y1 c2 hy (by rw [c3, e])]
  · have hx : ∃ y', Z (jn y) y' := ⟨y, y0, y1, hy, rfl⟩
    exact (dif_pos hx).trans (by rw [uz y y0 y1 hy hx])
/-- move, told by what the class lays -/
theorem m_move {h : ma_H} {b nx d : Nat} {t a s t' gm cm e : Int} {G nw H T C go gl cl la ix jn nu Aa : Int → Int} {Q : Option ma_V → ma_H → Nat → Prop} {I : Nat → Int} {X : Int → Prop} (hM : h 73 = co 12 (mo I)) (hS : SMO h) (hb : h b = ci 33 Aa) (nb : mlen b = 0 ∧ b ≠ 77 ∧ b ≠ 73) (hG : VG t G) (hA : AG t G Aa) (h1 : FL t G a X nw s t') (h2 : FU t G a X nw H T) (h3 : FC G t X nw H T C) (h4 : LFG G a X go gl gm la e ix) (h5 : LCG X cl cm la e jn nu) (h6 : t' = s + cm) (h92 : h 92 = ci 4 go) (h93 : h 93 = ci 16 gl) (h94 : h 94 = ci 16 cl) (hgm : I 32 = gm) (hcm : I 34 = cm) (K : ∀ h' TH C', kp h h' (b :: mvl) → h' 73 = co 12 (mo I) → SMO h' → h' b = ci 33 TH → AG t' C' TH → (∃ m r sg, IS t' C C' m r sg) → (∀ k, 4 * t' ≤ k → C' k = -1) → Q none h' nx) : ma_Ct mX12_move (d + 3) 0 0 [vr 73, vr b] h nx Q := by
  obtain ⟨M, Sg, Mi, cu, c1, c2, c3⟩ := cfg_mk hG h1 h2 h3 h4 h5 h6
  obtain ⟨f95, e95⟩ := hS.1 95 (by decide)
  obtain ⟨f84, e84⟩ := hS.1 84 (by decide)
  obtain ⟨f96, e96⟩ := hS.1 96 (by decide)
  obtain ⟨pf, e77, hpf⟩ := hS.2
  have nb' : b ≠ 84 ∧ b ≠ 96 ∧ b ≠ 95 := ⟨fun z => by rw [z] at nb; exact absurd nb.1 (by decide), fun z => by rw [z] at nb; exact absurd nb.1 (by decide), fun z => by rw [z] at nb; exact absurd nb.1 (by decide)⟩
  refine c_X12_move c1 c2 c3 hM e77 hpf h92 h93 h94 hb nb' hgm hcm hA e95 e84 e96 (fun V MV TH hAG => ?_)
  refine K _ TH _ ?_ ?_ ?_ (ma_up_s _ _ _) hAG ⟨M, Mi, Sg, cm_IS c1 c2⟩ (fun k hk => cm_out hk)
  · repeat (first | exact kp_rf _ _ | assumption | refine kp_up (by simp) ?_)
  · rw [ma_up_n (Ne.symm nb.2.2), ma_up_n (by decide), ma_up_n (by decide), ma_up_n (by decide)]
    exact hM
  · repeat (first | assumption | refine smo_n (by first | decide | exact nb.1) (by first | decide | exact nb.2.1) ?_ | refine smo_a rfl (by decide) ?_)
theorem nb_k {b : Nat} (nb : mlen b = 0 ∧ b ≠ 77 ∧ b ≠ 73) : ∀ k, k = 73 ∨ k = 77 ∨ mlen k ≠ 0 → b ≠ k := fun k hk z => by
  subst z
  rcases hk with z | z | z
  · exact nb.2.2 z
  · exact nb.2.1 z
  · exact z nb.1
set_option maxHeartbeats 2000000 in
theorem c_X12_goOne {h : ma_H} {b nx d : Nat} {t x : Int} {G Aa C : Int → Int} {Q : Option ma_V → ma_H → Nat → Prop} {I : Nat → Int} (hM : h 73 = co 12 (mo I)) (hS : SMO h) (hb : h b = ci 33 Aa) (nb : mlen b = 0 ∧ b ≠ 77 ∧ b ≠ 73) (hG : VG t G) (hA : AG t G Aa) (rx : rg x) (hMR : 0 ≤ x ∧ x < t → t + 3 ≤ 8 → MR t G (160 + x) (t + 3) C) (K1 : ¬ (0 ≤ x ∧ x < t) → Q (some (vi (-1))) h nx) (K3 : 0 ≤ x ∧ x < t → 8 < t + 3 → Q (some (vi (-3))) h nx) (K0 : 0 ≤ x ∧ x < t → t + 3 ≤ 8 → ∀ h' I' TH C', MP h h' b I I' → h' b = ci 33 TH → AG (t + 3) C' TH → (∃ m r sg, IS (t + 3) C C' m r sg) → (∀ k, 4 * (t + 3) ≤ k → C' k = -1) → Q (some (vi 0)) h' nx) : ma_Ct mX12_goOne (d + 4) 0 0 [vr 73, vr b, vi x] h nx Q := by
  have ht := hG.1
  have nbk := nb_k nb
  refine ma_Ct.of (by decide +kernel) (Nat.le_of_ble_eq_true rfl) ?_
  refine ma_iload_n dX12_goOne_0 rfl ?_
  refine ma_iconst dX12_goOne_1 ?_
  refine ma_aload_n dX12_goOne_2 rfl ?_
  refine ma_iconst dX12_goOne_3 ?_
  refine ma_iald dX12_goOne_4 (by first | assumption | exact ma_up_s _ _ _ | exact (ma_up_n (by decide)).trans (ma_up_s _ _ _) | exact (ma_up_n (by first | decide | omega)).trans (by assumption)) (by omega) (by omega) (by omega) ?_
  rw [hA.1]
  refine ma_iconst dX12_goOne_5 ?_
  refine ma_isub dX12_goOne_6 ?_
  refine ma_cS [_, _, _] dX12_goOne_7 wX12_in lX12_179 tX12_in (Nat.le_of_ble_eq_true rfl) ?_
  refine c_X12_in rx (by unfold rg; omega) (by unfold rg; omega) (fun a1 a2 => ?_) (fun a1 => ?_)
  · -- k1
    refine ma_rif_ne 15 dX12_goOne_10 rfl (by decide) (fun c10 => ?_) (fun c10 => absurd c10 (by decide))
    refine ma_aload_n dX12_goOne_15 rfl ?_
    refine ma_iconst dX12_goOne_16 ?_
    refine ma_iald dX12_goOne_17 (by first | assumption | exact ma_up_s _ _ _ | exact (ma_up_n (by decide)).trans (ma_up_s _ _ _) | exact (ma_up_n (by first | decide | omega)).trans (by assumption)) (by omega) (by omega) (by omega) ?_
    rw [hA.1]
    refine ma_iconst dX12_goOne_18 ?_
    refine ma_iadd dX12_goOne_19 ?_
    refine ma_bipush dX12_goOne_20 ?_
    refine ma_rcmp_le 28 dX12_goOne_22 rfl (by constructor <;> omega) (by constructor <;> omega) (fun c22 => ?_) (fun c22 => ?_)
    · -- 28
      refine ma_aload_n dX12_goOne_28 rfl ?_
      refine ma_cV [] dX12_goOne_29 wX12_beginMove lX12_402 iX12_beginMove sX12_beginMove rfl (by first | assumption | exact ma_up_s _ _ _ | exact (ma_up_n (by decide)).trans (ma_up_s _ _ _) | exact (ma_up_n (by first | decide | omega)).trans (by assumption)) (Nat.le_of_ble_eq_true rfl) ?_
      refine c_X12_beginMove hM ?_
      refine ma_aload_n dX12_goOne_32 rfl ?_
      refine ma_iload_n dX12_goOne_33 rfl ?_
      refine ma_iconst dX12_goOne_34 ?_
      refine ma_iconst dX12_goOne_35 ?_
      refine ma_iconst dX12_goOne_36 ?_
      refine ma_iconst dX12_goOne_37 ?_
      refine ma_cV [_, _, _, _, _] dX12_goOne_38 wX12_goes lX12_405 iX12_goes sX12_goes rfl (by first | assumption | exact ma_up_s _ _ _ | exact (ma_up_n (by decide)).trans (ma_up_s _ _ _) | exact (ma_up_n (by first | decide | omega)).trans (by assumption)) (Nat.le_of_ble_eq_true rfl) ?_
      obtain ⟨go0, g92⟩ := hS.1 92 (by decide)
      obtain ⟨gl0, g93⟩ := hS.1 93 (by decide)
      obtain ⟨cl0, g94⟩ := hS.1 94 (by decide)
      refine c_X12_goes (ma_up_s _ _ _) ((ma_up_n (by decide)).trans (g92)) ((ma_up_n (by decide)).trans (g93)) (g := 0) rfl (by decide) ?_
      refine ma_aload_n dX12_goOne_41 rfl ?_
      refine ma_iconst dX12_goOne_42 ?_
      refine ma_iconst dX12_goOne_43 ?_
      refine ma_iconst dX12_goOne_44 ?_
      refine ma_iconst dX12_goOne_45 ?_
      refine ma_cV [_, _, _, _] dX12_goOne_46 wX12_arrives lX12_409 iX12_arrives sX12_arrives rfl (by first | assumption | exact ma_up_s _ _ _ | exact (ma_up_n (by decide)).trans (ma_up_s _ _ _) | exact (ma_up_n (by first | decide | omega)).trans (by assumption)) (Nat.le_of_ble_eq_true rfl) ?_
      refine c_X12_arrives (ma_up_s _ _ _) ((ma_up_n (by decide)).trans ((ma_up_n (by decide)).trans ((ma_up_n (by decide)).trans ((ma_up_n (by decide)).trans (g94))))) (g := 0) rfl (by decide) ?_
      refine ma_aload_n dX12_goOne_49 rfl ?_
      refine ma_iconst dX12_goOne_50 ?_
      refine ma_iconst dX12_goOne_51 ?_
      refine ma_iconst dX12_goOne_52 ?_
      refine ma_iconst dX12_goOne_53 ?_
      refine ma_cV [_, _, _, _] dX12_goOne_54 wX12_arrives lX12_409 iX12_arrives sX12_arrives rfl (by first | assumption | exact ma_up_s _ _ _ | exact (ma_up_n (by decide)).trans (ma_up_s _ _ _) | exact (ma_up_n (by first | decide | omega)).trans (by assumption)) (Nat.le_of_ble_eq_true rfl) ?_
      refine c_X12_arrives (ma_up_s _ _ _) ((ma_up_n (by decide)).trans ((ma_up_s _ _ _))) (g := 1) rfl (by decide) ?_
      refine ma_aload_n dX12_goOne_57 rfl ?_
      refine ma_iconst dX12_goOne_58 ?_
      refine ma_iconst dX12_goOne_59 ?_
      refine ma_iconst dX12_goOne_60 ?_
      refine ma_iconst dX12_goOne_61 ?_
      refine ma_cV [_, _, _, _] dX12_goOne_62 wX12_arrives lX12_409 iX12_arrives sX12_arrives rfl (by first | assumption | exact ma_up_s _ _ _ | exact (ma_up_n (by decide)).trans (ma_up_s _ _ _) | exact (ma_up_n (by first | decide | omega)).trans (by assumption)) (Nat.le_of_ble_eq_true rfl) ?_
      refine c_X12_arrives (ma_up_s _ _ _) ((ma_up_n (by decide)).trans ((ma_up_s _ _ _))) (g := 2) rfl (by decide) ?_
      refine ma_aload_n dX12_goOne_65 rfl ?_
      refine ma_iconst dX12_goOne_66 ?_
      refine ma_iconst dX12_goOne_67 ?_
      refine ma_iconst dX12_goOne_68 ?_
      refine ma_iconst dX12_goOne_69 ?_
      refine ma_cV [_, _, _, _] dX12_goOne_70 wX12_arrives lX12_409 iX12_arrives sX12_arrives rfl (by first | assumption | exact ma_up_s _ _ _ | exact (ma_up_n (by decide)).trans (ma_up_s _ _ _) | exact (ma_up_n (by first | decide | omega)).trans (by assumption)) (Nat.le_of_ble_eq_true rfl) ?_
      refine c_X12_arrives (ma_up_s _ _ _) ((ma_up_n (by decide)).trans ((ma_up_s _ _ _))) (g := 3) rfl (by decide) ?_
      refine ma_aload_n dX12_goOne_73 rfl ?_
      refine ma_aload_n dX12_goOne_74 rfl ?_
      refine ma_cV [_] dX12_goOne_75 wX12_move lX12_413 iX12_move sX12_move rfl (by first | assumption | exact ma_up_s _ _ _ | exact (ma_up_n (by decide)).trans (ma_up_s _ _ _) | exact (ma_up_n (by first | decide | omega)).trans (by assumption)) (Nat.le_of_ble_eq_true rfl) ?_
      have hMR := hMR ⟨by omega, by omega⟩ (by omega)
      obtain ⟨a, X, nw, s, H, T, pl, h1, h2, h3⟩ := hMR
      have pl2 : a = x ∧ ∀ c, 0 ≤ c → c < 4 → ¬ X c := by
        rcases pl with z | z | z | z
        · omega
        · omega
        · exact ⟨by omega, z.2.2.2⟩
        · omega
      obtain ⟨ea, hX⟩ := pl2
      have es : s = t - 1 := by
        have hs : gS G a X = fun i => i = a := by
          funext i
          apply propext
          exact ⟨fun z => z.elim (fun w => w) (fun ⟨c, c0, c1, c2, _⟩ => absurd c2 (hX c c0 c1)), fun z => Or.inl z⟩
        rw [h1.1.2.2.1, hs, sty_1 (by omega) (by omega)]
      refine m_move (gm := 1) (cm := 4) (la := fun c => c) (e := 4) (ix := fun _ => 0) (jn := fun y => y) (nu := fun y => if y = 0 then 0 else if y = 1 then 6 else if y = 2 then 8 else 9) (ma_up_s _ _ _) (by repeat (first | assumption | refine smo_n (by first | decide | exact nb.1) (by first | decide | exact nb.2.1) ?_ | refine smo_a rfl (by decide) ?_)) ((ma_up_n (nbk 73 (by decide))).trans ((ma_up_n (nbk 94 (by decide))).trans ((ma_up_n (nbk 73 (by decide))).trans ((ma_up_n (nbk 94 (by decide))).trans ((ma_up_n (nbk 73 (by decide))).trans ((ma_up_n (nbk 94 (by decide))).trans ((ma_up_n (nbk 73 (by decide))).trans ((ma_up_n (nbk 94 (by decide))).trans ((ma_up_n (nbk 73 (by decide))).trans ((ma_up_n (nbk 93 (by decide))).trans ((ma_up_n (nbk 92 (by decide))).trans ((ma_up_n (nbk 73 (by decide))).trans (hb))))))))))))) nb hG hA h1 h2 h3 ?_ ?_ (by omega) ((ma_up_n (by decide)).trans ((ma_up_n (by decide)).trans ((ma_up_n (by decide)).trans ((ma_up_n (by decide)).trans ((ma_up_n (by decide)).trans ((ma_up_n (by decide)).trans ((ma_up_n (by decide)).trans ((ma_up_n (by decide)).trans ((ma_up_n (by decide)).trans ((ma_up_n (by decide)).trans ((ma_up_s _ _ _)))))))))))) ((ma_up_n (by decide)).trans ((ma_up_n (by decide)).trans ((ma_up_n (by decide)).trans ((ma_up_n (by decide)).trans ((ma_up_n (by decide)).trans ((ma_up_n (by decide)).trans ((ma_up_n (by decide)).trans ((ma_up_n (by decide)).trans ((ma_up_n (by decide)).trans ((ma_up_s _ _ _))))))))))) ((ma_up_n (by decide)).trans ((ma_up_s _ _ _))) rfl rfl (fun h' TH C' q1 q2 q3 q4 q5 q6 q7 => ?_)
      · refine ⟨⟨by decide, fun c c0 c1 => ⟨c0, (show c < 5 by omega), (show c ≠ 4 by omega)⟩, fun c c' _ _ _ _ e => e, fun b b0 b1 be => ⟨b, b0, by omega, rfl⟩⟩, ⟨by decide, by decide, by rw [uf_s]; exact ea.symm, fun c c0 c1 => ?_⟩, fun c c0 c1 hc => absurd hc (hX c c0 c1), fun i i0 i1 => by omega⟩
        rcases four_of c0 c1 with rfl | rfl | rfl | rfl <;> rfl
      · refine ⟨by decide, fun y y0 y1 hy => ⟨y0, y1, ?_, fun c c0 c1 => ?_⟩, fun y y' _ _ _ _ _ _ e => e, fun j j0 j1 => ⟨j, j0, j1, hX j j0 j1, rfl⟩⟩
        · rcases four_of y0 y1 with rfl | rfl | rfl | rfl <;> decide
        · rcases four_of y0 y1 with rfl | rfl | rfl | rfl <;> rcases four_of c0 c1 with rfl | rfl | rfl | rfl <;> rfl
      refine ma_iconst dX12_goOne_78 ?_
      refine ma_iret dX12_goOne_79 rfl (K0 ⟨by omega, by omega⟩ (by omega) h' _ TH C' ⟨?_, q2, ?_, q3⟩ q4 q5 q6 q7)
      · refine kp_tr ?_ q1
        repeat (first | exact kp_rf _ _ | assumption | refine kp_up (by simp) ?_)
      · repeat (first | exact ki_rf _ | refine ki_u ?_ (by decide))
    · -- 25
      refine ma_bipush dX12_goOne_25 ?_
      exact ma_iret dX12_goOne_27 rfl (K3 (by omega) (by omega))
  · -- k0
    refine ma_rif_ne 15 dX12_goOne_10 rfl (by decide) (fun c10 => absurd c10 (by decide)) (fun c10 => ?_)
    refine ma_iconst dX12_goOne_13 ?_
    exact ma_iret dX12_goOne_14 rfl (K1 (by omega))
