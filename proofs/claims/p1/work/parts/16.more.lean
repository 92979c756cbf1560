section MAO
variable {scr : Option (Nat × (Int → Int))} {M : ma_M} {d kc ks pc : Nat} {lv : List (Option ma_V)} {st : List ma_V} {h : ma_H} {nx : Nat} {Q : Option ma_V → ma_H → Nat → Prop}
theorem ma_obj {idx b : Nat} (hd : decode M.2.1 pc = .ok (.invokespecial idx, 3)) (hl : Cond.methodLink M.1.cls idx objectInit ∈ ma_gt) (hi : Cond.instanceMethod objectInit ∈ ma_gt) (hc : Cond.code objectInit ⟨#[0xb1]⟩ 1 none ∈ ma_gt) (hd1 : 1 ≤ d) (hwd : ma_wd st ≤ 8) (K : ma_J scr M d kc ks (pc + 3) lv st h nx Q) : ma_J scr M d kc ks pc lv (vr b :: st) h nx Q := by
  intro p l e R s m args below meth c D cT A ad base H locs cells slots ls Z CX hA SP HP hS L hf hL hc2 hs FIN
  have hts := CX.2.2.2.2.2.2.1
  refine W.objInit CX.1 CX.2.1 CX.2.2.2.2.1 (hts _ hl) (hts _ hi) (hts _ hc) rfl (by rw [CX.2.2.2.1]; exact L.1) rfl hd (by omega) ?_ (K p l e R s m args below meth c D cT A ad base H locs cells slots ls Z CX hA SP HP hS L hf hL hc2 hs FIN)
  have e1 := ma_wd_ok ad st
  show 2 * 0 + ((st.map (ma_rv ad)).map fun v => v.category).sum + 12 ≤ R.locals
  omega
/-- no more cells are made -/
theorem ma_close (K : ma_J scr M d kc ks pc lv st h 1000000 Q) (hnx : nx ≤ 1000000) : ma_J scr M d kc ks pc lv st h nx Q := by
  intro p l e R s m args below meth c D cT A ad base H locs cells slots ls Z CX hA SP HP hS L hf hL hc2 hs FIN
  exact K p l e R s m args below meth c D cT A ad base H locs cells slots ls Z CX hA SP ⟨fun q => absurd q (by omega), fun k hk => ⟨(HP.2 k hk).2.1, (HP.2 k hk).2⟩⟩ hS L hf hL hc2 hs FIN
def ma_cpy (f g : Int → Int) (sp dp n : Int) : Int → Int := fun j => if dp ≤ j ∧ j < dp + n then f (sp + (j - dp)) else g j
theorem ma_nat {i : Int} (h0 : 0 ≤ i) (h1 : i ≤ 2147483647) : ¬ Int32.ofInt i < 0 ∧ (Int32.ofInt i).toNatClampNeg = i.toNat := by
  have e : (Int32.ofInt i).toInt = i := iw_of (by omega) h1
  refine ⟨fun q => ?_, by show (Int32.ofInt i).toInt.toNat = i.toNat; rw [e]⟩
  have := iw_lt.mp (show Int32.ofInt i < Int32.ofInt 0 from q)
  rw [iw_0] at this
  unfold iw at this
  omega
/-- the world as a list of cells -/
def ma_pl (h : ma_H) : List Nat := (List.range 1000000).filter (fun k => ma_lv (h k))
def ma_wl (cT : Nat → ClassId) (ad : Nat → Nat) (h : ma_H) : va_W := (ma_pl h).map (fun k => (ad k, ma_re cT ad (h k)))
theorem ma_pl_nd (h : ma_H) : (ma_pl h).Nodup := List.Pairwise.filter _ List.nodup_range
theorem ma_wl_at {cT : Nat → ClassId} {ad : Nat → Nat} {h : ma_H} {i : Nat} {q : Nat × va_E} (hq : (ma_wl cT ad h)[i]? = some q) : ∃ k, (ma_pl h)[i]? = some k ∧ ma_lv (h k) = true ∧ k < 1000000 ∧ q = (ad k, ma_re cT ad (h k)) := by
  unfold ma_wl at hq
  rw [List.getElem?_map] at hq
  cases hi : (ma_pl h)[i]? with
  | none => rw [hi] at hq; cases hq
  | some k =>
    rw [hi] at hq
    have hk := List.mem_filter.mp (List.mem_of_getElem? hi)
    exact ⟨k, rfl, hk.2, List.mem_range.mp hk.1, (Option.some.inj hq).symm⟩
theorem ma_wl_in {cT : Nat → ClassId} {ad : Nat → Nat} {h : ma_H} {k : Nat} (hl : ma_lv (h k) = true) (hk : k < 1000000) : ∃ i : Nat, (ma_pl h)[i]? = some k ∧ (ma_wl cT ad h)[i]? = some (ad k, ma_re cT ad (h k)) := by
  have hm : k ∈ ma_pl h := List.mem_filter.mpr ⟨List.mem_range.mpr hk, hl⟩
  obtain ⟨i, hi⟩ := List.getElem?_of_mem hm
  exact ⟨i, hi, by unfold ma_wl; rw [List.getElem?_map, hi]; rfl⟩
theorem ma_nd {α : Type} {l : List α} (hn : l.Nodup) {i j : Nat} {a : α} (hi : l[i]? = some a) (hj : l[j]? = some a) : i = j := by
  obtain ⟨h1, e1⟩ := List.getElem?_eq_some_iff.mp hi
  obtain ⟨h2, e2⟩ := List.getElem?_eq_some_iff.mp hj
  rcases Nat.lt_trichotomy i j with q | q | q
  · exact absurd (e1.trans e2.symm) (List.pairwise_iff_getElem.mp hn i j h1 h2 q)
  · exact q
  · exact absurd (e2.trans e1.symm) (List.pairwise_iff_getElem.mp hn j i h2 h1 q)
theorem ma_copy {idx a b n0 n1 : Nat} {f g : Int → Int} {sp dp n : Int} (hd : decode M.2.1 pc = .ok (.invokestatic idx, 3)) (hl : Cond.methodLink M.1.cls idx arraycopyName ∈ ma_gt) (hnt : Cond.native arraycopyName ∈ ma_gt) (hst : Cond.static arraycopyName ∈ ma_gt) (hini : Cond.initialized "java/lang/System" ∈ ma_gt)
    (ha : h a = ci n0 f) (hb : h b = ci n1 g) (h1 : 0 ≤ sp) (h2 : 0 ≤ dp) (h3 : 0 ≤ n) (h4 : sp + n ≤ n0) (h5 : dp + n ≤ n1) (hn0 : n0 ≤ 2147483647) (hn1 : n1 ≤ 2147483647) (hd1 : 1 ≤ d) (hwd : ma_wd st ≤ 8) (K : ma_J scr M d kc ks (pc + 3) lv st (ma_up h b (ci n1 (ma_cpy f g sp dp n))) 1000000 Q) : ma_J scr M d kc ks pc lv (vi n :: vi dp :: vr b :: vi sp :: vr a :: st) h 1000000 Q := by
  intro p l e R s m args below meth c D cT A ad base H locs cells slots ls Z CX hA SP HP hS L hf hL hc2 hs FIN
  have hts := CX.2.2.2.2.2.2.1
  have hla : ma_lv (h a) = true := by rw [ha]; rfl
  have hlb : ma_lv (h b) = true := by rw [hb]; rfl
  have had := SP.1
  have hP : va_P D vwCl (ma_wl cT ad h) H := by
    intro i q hq
    obtain ⟨k, -, g1, -, rfl⟩ := ma_wl_at hq
    exact (HP.2 k g1).2.2.2
  have hD : va_D A (ma_wl cT ad h) := by
    refine ⟨fun i j x y hx hy hxy => ?_, fun i q hq => ?_⟩
    · obtain ⟨k, g0, g1, g2, rfl⟩ := ma_wl_at hx
      obtain ⟨k', g0', g1', g2', rfl⟩ := ma_wl_at hy
      have e1 : ad k = ad k' := hxy
      rw [had k g2, had k' g2'] at e1
      have e2 : k = k' := by omega
      subst e2
      exact ma_nd (ma_pl_nd h) g0 g0'
    · obtain ⟨k, -, g1, -, rfl⟩ := ma_wl_at hq
      exact (HP.2 k g1).2.2.1
  obtain ⟨qa, ea0, ea⟩ := ma_wl_in (cT := cT) (ad := ad) hla (HP.2 a hla).2.1
  obtain ⟨qb, eb0, eb⟩ := ma_wl_in (cT := cT) (ad := ad) hlb (HP.2 b hlb).2.1
  rw [ha] at ea
  rw [hb] at eb
  obtain ⟨s1, s2⟩ := ma_nat h1 (by omega)
  obtain ⟨d1, d2⟩ := ma_nat h2 (by omega)
  obtain ⟨m1, m2⟩ := ma_nat h3 (by omega)
  have e9 := ma_wd_ok ad st
  have hwl : nativeFrameWords "java/lang/System" "arraycopy" 5 ≤ 20 := by decide +kernel
  refine va_copyi CX.1 CX.2.1 (by rw [CX.2.2.2.1]; exact L.1.symm) CX.2.2.2.2.1 (hts _ hl) (hts _ hnt) (hts _ hst) (hts _ hini) SP.2.1 hP hD hS qa qb 0 0 ea eb rfl rfl rfl s1 d1 m1 (by rw [s2, m2]; omega) (by rw [d2, m2]; omega) (fun _ _ => rfl) (by omega) (by show ((st.map (ma_rv ad)).map fun v => v.category).sum + _ ≤ _; omega) hd (fun H1 locs1 hP1 hD1 hS1 => ?_)
  refine K p l e R s m args below meth c D cT A ad base H1 locs1 cells slots ls Z CX hA SP ⟨fun q => absurd q (by omega), fun k hk => ?_⟩ hS1 L hf hL hc2 hs FIN
  by_cases e : k = b
  · subst e
    refine ⟨(HP.2 k hlb).1, (HP.2 k hlb).2.1, (HP.2 k hlb).2.2.1, ?_⟩
    have gg := hP1 qb _ (List.getElem?_set_self (List.getElem?_eq_some_iff.mp eb).1)
    rw [ma_up_s]
    rw [s2, d2, m2] at gg
    have e6 : va_cpy (fun j : Nat => Int32.ofInt (f j)) (fun j : Nat => Int32.ofInt (g j)) sp.toNat dp.toNat n.toNat = fun j : Nat => Int32.ofInt (ma_cpy f g sp dp n j) := by
      funext j
      unfold va_cpy ma_cpy
      by_cases hj : dp.toNat ≤ j ∧ j < dp.toNat + n.toNat
      · rw [if_pos hj, if_pos (by omega)]
        show Int32.ofInt (f ((sp.toNat + (j - dp.toNat) : Nat) : Int)) = _
        rw [show ((sp.toNat + (j - dp.toNat) : Nat) : Int) = sp + ((j : Int) - dp) from by omega]
      · rw [if_neg hj, if_neg (by omega)]
    rw [e6] at gg
    exact gg
  · rw [ma_up_n e] at hk ⊢
    refine ⟨(HP.2 k hk).1, (HP.2 k hk).2.1, (HP.2 k hk).2.2.1, ?_⟩
    obtain ⟨i, ei0, ei⟩ := ma_wl_in (cT := cT) (ad := ad) hk (HP.2 k hk).2.1
    have hne : qb ≠ i := fun z => by
      rw [z, ei0] at eb0
      exact e (Option.some.inj eb0)
    exact hP1 i _ (by rw [List.getElem?_set_ne hne]; exact ei)
end MAO
