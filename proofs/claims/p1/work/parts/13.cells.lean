theorem ma_nar_b (x : Int) : narrow .byte (.int (Int32.ofInt x)) = .int (Int32.ofInt (bi_nb x)) := by
  unfold bi_nb
  rw [Int32.ofInt_toInt]
  rfl
theorem ma_nar_z (x : Int) : narrow .boolean (.int (Int32.ofInt x)) = .int (Int32.ofInt (bi_nz x)) := by
  unfold bi_nz
  rw [Int32.ofInt_toInt]
  rfl
section MAC
variable {scr : Option (Nat × (Int → Int))} {M : ma_M} {d kc ks pc : Nat} {lv : List (Option ma_V)} {st : List ma_V} {h : ma_H} {nx : Nat} {Q : Option ma_V → ma_H → Nat → Prop}
theorem ma_vp_map (ad : Nat → Nat) {fs : List ma_V} {k : Nat} (v : ma_V) : (fs.set k v).map (ma_rv ad) = (fs.map (ma_rv ad)).set k (ma_rv ad v) := List.map_set
theorem ma_putf {idx a ci k : Nat} {isr : Bool} {fs : List ma_V} {v : ma_V} (hd : decode M.2.1 pc = .ok (.putfield idx, 3)) (hl : ma_FL M.1.cls idx ci k false isr) (ha : h a = co ci fs) (hk2 : k < fs.length) (hv : if isr = true then ∃ r, v = .inr (.inr r) else ∃ x, v = .inl x) (K : ma_J scr M d kc ks (pc + 3) lv st (ma_up h a (co ci (fs.set k v))) nx Q) : ma_J scr M d kc ks pc lv (v :: vr a :: st) h nx Q := by
  obtain ⟨C, T, N, ty, ⟨c1, c2, c3, c4⟩, hk, hw, hfin, hC, ht⟩ := hl
  refine ma_goP (by rw [ha]; rfl) (fun p l e R s m args below meth c D cT A ad base H locs cells slots ls Z CX SP HP kk => ?_) K
  have hts := CX.2.2.2.2.2.2.1
  have hown := CX.2.2.2.2.1
  have hap := va_apart (own := M.1.cls) hts c2 ty c3 c4 SP.2.1 c1
  obtain ⟨r, h1, cell, q1, q2, q3, q4⟩ := (HP.get ha rfl).1 0 _ rfl
  have hr : r = (C, T, N) := Option.some.inj (h1.symm.trans c1)
  subst hr
  obtain ⟨hS, hfc, kC, hkC, hkind⟩ := SP.2.1.1 ci _ c1
  obtain ⟨cf, kf, fi, f, hi, hsl⟩ := hS k hk
  have hlay := hts _ (c2 _ (u_in_lay hk))
  unfold u_lay at hlay
  rw [if_neg (by rw [hfin]; decide)] at hlay
  have hst := (u_facts hfc hkC (u_lays hts c2 hk) hi).1
  obtain ⟨f1, f2⟩ := ma_fits ad ht hv
  have h6 := u_store hfc hkC hkind hlay hi (c3 k hk) f1 f2
  refine W.putK CX.1 CX.2.1 (f := f) ⟨hown, hts _ hw, ⟨_, _, _, hi⟩, hst⟩ (by rw [q2]; exact h6) q1 q3 (by rw [hsl]; exact k2_hasslot (q4 k hk)) rfl rfl hd fun H' e1 e2 e3 => ?_
  rw [hsl] at e1 ⊢
  refine kk H' _ e2 e3 ⟨_, c1, t_OB.to (V := updV (vp_V (fs.map (ma_rv ad))) k (ma_rv ad v)) ⟨_, e1, q2, q3, t_set q4 hap hk _⟩ (fun j _ => ?_)⟩
  rw [vp_updV_set (by simpa using hk2)]
  show vp_V _ j = vp_V ((fs.set k v).map (ma_rv ad)) j
  rw [ma_vp_map]
theorem ma_putF {idx a ci k : Nat} {isr : Bool} {fs : List ma_V} {v : ma_V} (hd : decode M.2.1 pc = .ok (.putfield idx, 3)) (hl : ma_FL M.1.cls idx ci k true isr) (hini : M.1.name = "<init>") (hown2 : ∃ T N, vwCl[ci]? = some (M.1.cls, T, N)) (ha : h a = co ci fs) (hk2 : k < fs.length) (hv : if isr = true then ∃ r, v = .inr (.inr r) else ∃ x, v = .inl x) (K : ma_J scr M d kc ks (pc + 3) lv st (ma_up h a (co ci (fs.set k v))) nx Q) : ma_J scr M d kc ks pc lv (v :: vr a :: st) h nx Q := by
  obtain ⟨C, T, N, ty, ⟨c1, c2, c3, c4⟩, hk, hw, hfin, hC, ht⟩ := hl
  refine ma_goP (by rw [ha]; rfl) (fun p l e R s m args below meth c D cT A ad base H locs cells slots ls Z CX SP HP kk => ?_) K
  have hts := CX.2.2.2.2.2.2.1
  have hown := CX.2.2.2.2.1
  have hap := va_apart (own := M.1.cls) hts c2 ty c3 c4 SP.2.1 c1
  obtain ⟨r, h1, cell, q1, q2, q3, q4⟩ := (HP.get ha rfl).1 0 _ rfl
  have hr : r = (C, T, N) := Option.some.inj (h1.symm.trans c1)
  subst hr
  obtain ⟨hS, hfc, kC, hkC, hkind⟩ := SP.2.1.1 ci _ c1
  obtain ⟨cf, kf, fi, f, hi, hsl⟩ := hS k hk
  have hlay := hts _ (c2 _ (u_in_lay hk))
  unfold u_lay at hlay
  rw [if_pos hfin] at hlay
  have hst := (u_facts hfc hkC (u_lays hts c2 hk) hi).1
  have hdecl : (T k).1 = M.1.cls := by
    obtain ⟨T2, N2, e2⟩ := hown2
    have := c1.symm.trans e2
    simp only [Option.some.injEq, Prod.mk.injEq] at this
    rw [hC]; exact this.1
  have hcf : m.cls = cf := by
    obtain ⟨_, _, c', _, _, _, -, -, hf', -, -, -, hown2, -⟩ := Cond.laysFinal_spec hlay
    have e1 : c' = cf := by have := hi.symm.trans hf'; simp at this; exact this.1.symm
    rw [hdecl] at hown2
    rw [← e1]; exact Option.some.inj (hown.symm.trans hown2)
  obtain ⟨f1, f2⟩ := ma_fits ad ht hv
  have h6 := u_fits hfc hkC hkind (Or.inr hlay) hi (c3 k hk) f1 f2
  refine W.putFinK CX.1 CX.2.1 hown (hts _ hw) hi hst hcf (CX.2.2.2.2.2.2.2.1 hini) (by rw [q2]; exact h6) q1 q3 (by rw [hsl]; exact k2_hasslot (q4 k hk)) rfl rfl hd fun H' e1 e2 e3 => ?_
  rw [hsl] at e1 ⊢
  refine kk H' _ e2 e3 ⟨_, c1, t_OB.to (V := updV (vp_V (fs.map (ma_rv ad))) k (ma_rv ad v)) ⟨_, e1, q2, q3, t_set q4 hap hk _⟩ (fun j _ => ?_)⟩
  rw [vp_updV_set (by simpa using hk2)]
  show vp_V _ j = vp_V ((fs.set k v).map (ma_rv ad)) j
  rw [ma_vp_map]
/-- an index that is within -/
theorem ma_ix {i : Int} {n : Nat} (h0 : 0 ≤ i) (h1 : i < n) (hn : n ≤ 2147483647) : vp_in (Int32.ofInt i) n ∧ (Int32.ofInt i).toNatClampNeg = i.toNat := by
  have e : (Int32.ofInt i).toInt = i := iw_of (by omega) (by omega)
  refine ⟨vp_in_iff.mpr ⟨by omega, by omega⟩, ?_⟩
  show (Int32.ofInt i).toInt.toNat = i.toNat
  rw [e]
theorem ma_iald {a n : Nat} {f : Int → Int} {i : Int} (hd : decode M.2.1 pc = .ok (.iaload, 1)) (ha : h a = ci n f) (h0 : 0 ≤ i) (h1 : i < n) (hn : n ≤ 2147483647) (K : ma_J scr M d kc ks (pc + 1) lv (vi (f i) :: st) h nx Q) : ma_J scr M d kc ks pc lv (vi i :: vr a :: st) h nx Q := by
  obtain ⟨e1, e2⟩ := ma_ix h0 h1 hn
  refine ma_goH (fun p l e R s m args below meth c D cT A ad base H locs cells slots ls Z CX SP HP hS kk => ?_) K
  refine va_iald CX.1 CX.2.1 SP.2.1 (HP.get ha rfl).1 0 0 rfl rfl e1 hd ?_
  rw [e2, Int.toNat_of_nonneg h0]
  exact kk
theorem ma_lald {a n : Nat} {f : Int → Int} {i : Int} (hd : decode M.2.1 pc = .ok (.laload, 1)) (ha : h a = cl n f) (h0 : 0 ≤ i) (h1 : i < n) (hn : n ≤ 2147483647) (K : ma_J scr M d kc ks (pc + 1) lv (vl (f i) :: st) h nx Q) : ma_J scr M d kc ks pc lv (vi i :: vr a :: st) h nx Q := by
  obtain ⟨e1, e2⟩ := ma_ix h0 h1 hn
  refine ma_goH (fun p l e R s m args below meth c D cT A ad base H locs cells slots ls Z CX SP HP hS kk => ?_) K
  refine va_lald CX.1 CX.2.1 SP.2.1 (HP.get ha rfl).1 0 1 rfl rfl e1 hd ?_
  rw [e2, Int.toNat_of_nonneg h0]
  exact kk
theorem ma_bald {a n : Nat} {f : Int → Int} {i : Int} (hd : decode M.2.1 pc = .ok (.baload, 1)) (ha : h a = cb n f) (h0 : 0 ≤ i) (h1 : i < n) (hn : n ≤ 2147483647) (K : ma_J scr M d kc ks (pc + 1) lv (vi (f i) :: st) h nx Q) : ma_J scr M d kc ks pc lv (vi i :: vr a :: st) h nx Q := by
  obtain ⟨e1, e2⟩ := ma_ix h0 h1 hn
  refine ma_goH (fun p l e R s m args below meth c D cT A ad base H locs cells slots ls Z CX SP HP hS kk => ?_) K
  refine va_bald CX.1 CX.2.1 SP.2.1 (HP.get ha rfl).1 0 2 rfl rfl e1 hd ?_
  rw [e2, Int.toNat_of_nonneg h0]
  exact kk
theorem ma_zald {a n : Nat} {f : Int → Int} {i : Int} (hd : decode M.2.1 pc = .ok (.baload, 1)) (ha : h a = cz n f) (h0 : 0 ≤ i) (h1 : i < n) (hn : n ≤ 2147483647) (K : ma_J scr M d kc ks (pc + 1) lv (vi (f i) :: st) h nx Q) : ma_J scr M d kc ks pc lv (vi i :: vr a :: st) h nx Q := by
  obtain ⟨e1, e2⟩ := ma_ix h0 h1 hn
  refine ma_goH (fun p l e R s m args below meth c D cT A ad base H locs cells slots ls Z CX SP HP hS kk => ?_) K
  refine va_zald CX.1 CX.2.1 SP.2.1 (HP.get ha rfl).1 0 3 rfl rfl e1 hd ?_
  rw [e2, Int.toNat_of_nonneg h0]
  exact kk
theorem ma_qlive {n : Nat} {f : Int → Option Nat} (h0 : 0 < n) : ma_lv (cq n f) = true := by
  cases n with
  | zero => omega
  | succ n => rfl
theorem ma_rv_q (ad : Nat → Nat) (r : Option Nat) : va_rf (r.map ad) = ma_rv ad (.inr (.inr r)) := by cases r <;> rfl
theorem ma_aald {a n : Nat} {f : Int → Option Nat} {i : Int} (hd : decode M.2.1 pc = .ok (.aaload, 1)) (ha : h a = cq n f) (h0 : 0 ≤ i) (h1 : i < n) (hn : n ≤ 2147483647) (K : ma_J scr M d kc ks (pc + 1) lv (.inr (.inr (f i)) :: st) h nx Q) : ma_J scr M d kc ks pc lv (vi i :: vr a :: st) h nx Q := by
  obtain ⟨e1, e2⟩ := ma_ix h0 h1 hn
  refine ma_goH (fun p l e R s m args below meth c D cT A ad base H locs cells slots ls Z CX SP HP hS kk => ?_) K
  refine va_aldq CX.1 CX.2.1 SP.2.1 (HP.get ha (ma_qlive (by omega))).1 0 4 rfl rfl e1 hd ?_
  rw [e2, Int.toNat_of_nonneg h0, ma_rv_q]
  exact kk
/-- the static tables -/
theorem ma_tald {j n : Nat} {i : Int} (hd : decode M.2.1 pc = .ok (.iaload, 1)) (hj : j < 6) (hn : (ma_tb j).length = n) (h0 : 0 ≤ i) (h1 : i < n) (hn2 : n ≤ 2147483647) (K : ma_J scr M d kc ks (pc + 1) lv (vi (ma_tf j i) :: st) h nx Q) : ma_J scr M d kc ks pc lv (vi i :: vr (1000000 + j) :: st) h nx Q := by
  subst hn
  obtain ⟨e1, e2⟩ := ma_ix h0 h1 hn2
  refine ma_goH (fun p l e R s m args below meth c D cT A ad base H locs cells slots ls Z CX SP HP hS kk => ?_) K
  refine va_ti CX.1 CX.2.1 (SP.2.2.1 j hj).2 hS e1 rfl hd ?_
  rw [e2, Int.toNat_of_nonneg h0]
  exact kk
/-- the script -/
theorem ma_sald {L : Nat} {xs : Int → Int} {i : Int} (hd : decode M.2.1 pc = .ok (.iaload, 1)) (h0 : 0 ≤ i) (h1 : i < L) (hn2 : L ≤ 2147483647) (K : ma_J (some (L, xs)) M d kc ks (pc + 1) lv (vi (xs i) :: st) h nx Q) : ma_J (some (L, xs)) M d kc ks pc lv (vi i :: vr 2000000 :: st) h nx Q := by
  obtain ⟨e1, e2⟩ := ma_ix h0 h1 hn2
  refine ma_goH (fun p l e R s m args below meth c D cT A ad base H locs cells slots ls Z CX SP HP hS kk => ?_) K
  refine va_ti CX.1 CX.2.1 (SP.2.2.2.2.2.2.2 L xs rfl) hS e1 rfl hd ?_
  rw [e2, Int.toNat_of_nonneg h0]
  exact kk
theorem ma_gets {idx j : Nat} (hd : decode M.2.1 pc = .ok (.getstatic idx, 3)) (hj : j < 6) (hw : Cond.fieldLink M.1.cls idx (ma_rc j) (ma_rn j) "[I" ∈ ma_gt) (K : ma_J scr M d kc ks (pc + 3) lv (vr (1000000 + j) :: st) h nx Q) : ma_J scr M d kc ks pc lv st h nx Q := by
  refine ma_goH (fun p l e R s m args below meth c D cT A ad base H locs cells slots ls Z CX SP HP hS kk => ?_) K
  exact va_gets CX.1 CX.2.1 (SP.2.2.1 j hj).1 hS CX.2.2.2.2.1 (CX.2.2.2.2.2.2.1 _ hw) (fun _ q => q) hd kk
theorem ma_getsN {idx j : Nat} {host : String} (hd : decode M.2.1 pc = .ok (.getstatic idx, 3)) (hj : j < 6) (hw : Cond.fieldLinkNest M.1.cls idx (ma_rc j) (ma_rn j) "[I" host ∈ lw_tbl) (K : ma_J scr M d kc ks (pc + 3) lv (vr (1000000 + j) :: st) h nx Q) : ma_J scr M d kc ks pc lv st h nx Q := by
  refine ma_goH (fun p l e R s m args below meth c D cT A ad base H locs cells slots ls Z CX SP HP hS kk => ?_) K
  exact va_getsN CX.1 CX.2.1 (SP.2.2.1 j hj).1 hS CX.2.2.2.2.1 (va_Nw.use rfl (SP.2.2.2.1 _ hw rfl)) (fun _ q => q) hd kk
/-- lengths -/
theorem ma_alen {a t n : Nat} {f : Int → Int} (hd : decode M.2.1 pc = .ok (.arraylength, 1)) (ha : h a = .inl (t, n, f)) (ht : t < 4) (K : ma_J scr M d kc ks (pc + 1) lv (vi n :: st) h nx Q) : ma_J scr M d kc ks pc lv (vr a :: st) h nx Q := by
  refine ma_goH (fun p l e R s m args below meth c D cT A ad base H locs cells slots ls Z CX SP HP hS kk => ?_) K
  have e1 : ∃ t0, (ma_ty cT)[t]? = some (cT t, t0) := by
    rcases (show t = 0 ∨ t = 1 ∨ t = 2 ∨ t = 3 by omega) with rfl | rfl | rfl | rfl <;> exact ⟨_, rfl⟩
  obtain ⟨t0, ht0⟩ := e1
  exact va_alen CX.1 CX.2.1 SP.2.1 (HP.get ha rfl).1 0 t rfl ht0 (v := Int32.ofInt n) (Int32.ofInt_eq_ofNat ..).symm hd kk
theorem ma_slen {L : Nat} {xs : Int → Int} (hd : decode M.2.1 pc = .ok (.arraylength, 1)) (K : ma_J (some (L, xs)) M d kc ks (pc + 1) lv (vi L :: st) h nx Q) : ma_J (some (L, xs)) M d kc ks pc lv (vr 2000000 :: st) h nx Q := by
  refine ma_goH (fun p l e R s m args below meth c D cT A ad base H locs cells slots ls Z CX SP HP hS kk => ?_) K
  exact va_tlen CX.1 CX.2.1 (SP.2.2.2.2.2.2.2 L xs rfl) hS (v := Int32.ofInt L) (Int32.ofInt_eq_ofNat ..).symm hd kk
theorem ma_iast {a n : Nat} {f : Int → Int} {i x : Int} (hd : decode M.2.1 pc = .ok (.iastore, 1)) (ha : h a = ci n f) (h0 : 0 ≤ i) (h1 : i < n) (hn : n ≤ 2147483647) (K : ma_J scr M d kc ks (pc + 1) lv st (ma_up h a (ci n (uf f i (x)))) nx Q) : ma_J scr M d kc ks pc lv (vi x :: vi i :: vr a :: st) h nx Q := by
  obtain ⟨e1, e2⟩ := ma_ix h0 h1 hn
  refine ma_goP (by rw [ha]; rfl) (fun p l e R s m args below meth c D cT A ad base H locs cells slots ls Z CX SP HP kk => ?_) K
  refine W.iast CX.1 CX.2.1 ((HP.get ha rfl).1 0 _ rfl) ((SP.2.1.2 0 _ rfl).1 n (fun j => .int (Int32.ofInt (f j)))) (fun q => by cases q) (by show ¬ (_ ∨ (arrV _ _ _).slots.size ≤ _); rw [arrV_size]; exact e1) rfl rfl hd fun H1 e z oq => ?_
  refine kk H1 _ z oq ?_
  show H1[ad a]? = some (vp_cell _ _)
  rw [e]
  show some ((arrV (cT 0) n (fun j => .int (Int32.ofInt (f j)))).setSlot _ _) = some (arrV (cT 0) n (fun j => .int (Int32.ofInt (uf f i (x) j))))
  rw [arrV_store]
  congr 2
  funext q
  rw [e2]
  by_cases hq : q = i.toNat
  · have hq2 : (q : Int) = i := by omega
    simp only [updV, uf, if_pos hq, if_pos hq2]
    try rfl
  · have hq2 : ¬ (q : Int) = i := by omega
    simp only [updV, uf, if_neg hq, if_neg hq2]
theorem ma_last {a n : Nat} {f : Int → Int} {i x : Int} (hd : decode M.2.1 pc = .ok (.lastore, 1)) (ha : h a = cl n f) (h0 : 0 ≤ i) (h1 : i < n) (hn : n ≤ 2147483647) (K : ma_J scr M d kc ks (pc + 1) lv st (ma_up h a (cl n (uf f i (x)))) nx Q) : ma_J scr M d kc ks pc lv (vl x :: vi i :: vr a :: st) h nx Q := by
  obtain ⟨e1, e2⟩ := ma_ix h0 h1 hn
  refine ma_goP (by rw [ha]; rfl) (fun p l e R s m args below meth c D cT A ad base H locs cells slots ls Z CX SP HP kk => ?_) K
  refine W.last CX.1 CX.2.1 ((HP.get ha rfl).1 0 _ rfl) ((SP.2.1.2 1 _ rfl).1 n (fun j => .long (Int64.ofInt (f j)))) (fun q => by cases q) (by show ¬ (_ ∨ (arrV _ _ _).slots.size ≤ _); rw [arrV_size]; exact e1) rfl rfl hd fun H1 e z oq => ?_
  refine kk H1 _ z oq ?_
  show H1[ad a]? = some (vp_cell _ _)
  rw [e]
  show some ((arrV (cT 1) n (fun j => .long (Int64.ofInt (f j)))).setSlot _ _) = some (arrV (cT 1) n (fun j => .long (Int64.ofInt (uf f i (x) j))))
  rw [arrV_store]
  congr 2
  funext q
  rw [e2]
  by_cases hq : q = i.toNat
  · have hq2 : (q : Int) = i := by omega
    simp only [updV, uf, if_pos hq, if_pos hq2]
    try rfl
  · have hq2 : ¬ (q : Int) = i := by omega
    simp only [updV, uf, if_neg hq, if_neg hq2]
theorem ma_bast {a n : Nat} {f : Int → Int} {i x : Int} (hd : decode M.2.1 pc = .ok (.bastore, 1)) (ha : h a = cb n f) (h0 : 0 ≤ i) (h1 : i < n) (hn : n ≤ 2147483647) (K : ma_J scr M d kc ks (pc + 1) lv st (ma_up h a (cb n (uf f i (bi_nb x)))) nx Q) : ma_J scr M d kc ks pc lv (vi x :: vi i :: vr a :: st) h nx Q := by
  obtain ⟨e1, e2⟩ := ma_ix h0 h1 hn
  refine ma_goP (by rw [ha]; rfl) (fun p l e R s m args below meth c D cT A ad base H locs cells slots ls Z CX SP HP kk => ?_) K
  refine W.bast CX.1 CX.2.1 ((HP.get ha rfl).1 0 _ rfl) ((SP.2.1.2 2 _ rfl).1 n (fun j => .int (Int32.ofInt (f j)))) (fun q => by cases q) (by show ¬ (_ ∨ (arrV _ _ _).slots.size ≤ _); rw [arrV_size]; exact e1) rfl rfl hd fun H1 e z oq => ?_
  refine kk H1 _ z oq ?_
  show H1[ad a]? = some (vp_cell _ _)
  rw [e]
  show some ((arrV (cT 2) n (fun j => .int (Int32.ofInt (f j)))).setSlot _ _) = some (arrV (cT 2) n (fun j => .int (Int32.ofInt (uf f i (bi_nb x) j))))
  rw [arrV_store]
  congr 2
  funext q
  rw [e2]
  by_cases hq : q = i.toNat
  · have hq2 : (q : Int) = i := by omega
    simp only [updV, uf, if_pos hq, if_pos hq2]
    exact ma_nar_b x
  · have hq2 : ¬ (q : Int) = i := by omega
    simp only [updV, uf, if_neg hq, if_neg hq2]
theorem ma_zast {a n : Nat} {f : Int → Int} {i x : Int} (hd : decode M.2.1 pc = .ok (.bastore, 1)) (ha : h a = cz n f) (h0 : 0 ≤ i) (h1 : i < n) (hn : n ≤ 2147483647) (K : ma_J scr M d kc ks (pc + 1) lv st (ma_up h a (cz n (uf f i (bi_nz x)))) nx Q) : ma_J scr M d kc ks pc lv (vi x :: vi i :: vr a :: st) h nx Q := by
  obtain ⟨e1, e2⟩ := ma_ix h0 h1 hn
  refine ma_goP (by rw [ha]; rfl) (fun p l e R s m args below meth c D cT A ad base H locs cells slots ls Z CX SP HP kk => ?_) K
  refine W.zast CX.1 CX.2.1 ((HP.get ha rfl).1 0 _ rfl) ((SP.2.1.2 3 _ rfl).1 n (fun j => .int (Int32.ofInt (f j)))) (fun q => by cases q) (by show ¬ (_ ∨ (arrV _ _ _).slots.size ≤ _); rw [arrV_size]; exact e1) rfl rfl hd fun H1 e z oq => ?_
  refine kk H1 _ z oq ?_
  show H1[ad a]? = some (vp_cell _ _)
  rw [e]
  show some ((arrV (cT 3) n (fun j => .int (Int32.ofInt (f j)))).setSlot _ _) = some (arrV (cT 3) n (fun j => .int (Int32.ofInt (uf f i (bi_nz x) j))))
  rw [arrV_store]
  congr 2
  funext q
  rw [e2]
  by_cases hq : q = i.toNat
  · have hq2 : (q : Int) = i := by omega
    simp only [updV, uf, if_pos hq, if_pos hq2]
    exact ma_nar_z x
  · have hq2 : ¬ (q : Int) = i := by omega
    simp only [updV, uf, if_neg hq, if_neg hq2]
theorem ma_aast {a v n : Nat} {f : Int → Option Nat} {vs : List ma_V} {i : Int} (hd : decode M.2.1 pc = .ok (.aastore, 1)) (ha : h a = cq n f) (hv : h v = co 8 vs) (h0 : 0 ≤ i) (h1 : i < n) (hn : n ≤ 2147483647) (K : ma_J scr M d kc ks (pc + 1) lv st (ma_up h a (cq n (uf f i (some v)))) nx Q) : ma_J scr M d kc ks pc lv (vr v :: vi i :: vr a :: st) h nx Q := by
  obtain ⟨e1, e2⟩ := ma_ix h0 h1 hn
  have hlv : ma_lv (h a) = true := by rw [ha]; exact ma_qlive (by omega)
  refine ma_goP hlv (fun p l e R s m args below meth c D cT A ad base H locs cells slots ls Z CX SP HP kk => ?_) K
  obtain ⟨r', hr', cellV, g1, g2, g3, -⟩ := (HP.get hv rfl).1 0 _ rfl
  have hcls := (SP.2.1.1 8 _ rfl).2
  obtain ⟨kA, comp, k1, k2, k3, -⟩ := (SP.2.1.2 4 _ rfl).2
  have hcomp : comp = D.1 8 := Option.some.inj (k3.symm.trans hcls.1)
  subst hcomp
  obtain ⟨kC, hkC, -⟩ := hcls.2
  have hin : ¬ Int32.ofInt i < 0 := fun q => e1 (Or.inl q)
  refine W.aast CX.1 CX.2.1 ((HP.get ha (ma_qlive (by omega))).1 0 _ rfl) (fun q h => by cases h) (fun h => by cases h) k1 k2 rfl hkC ⟨hin, by show (Int32.ofInt i).toNatClampNeg < (arrV (cT 4) n (fun j => va_rf ((f j).map ad))).slots.size; rw [arrV_size, e2]; omega⟩ g1 (fun q h => by rw [g3] at h; cases h) (by rw [g2]; exact hkC) (by rw [g2]; exact va_assign hcls) rfl rfl hd fun H1 e z oq => ?_
  refine kk H1 _ z oq ?_
  show H1[ad a]? = some (vp_cell _ _)
  rw [e]
  show some ((arrV (cT 4) n (fun j => va_rf ((f j).map ad))).setSlot _ _) = some (arrV (cT 4) n (fun j => va_rf ((uf f i (some v) j).map ad)))
  rw [arrV_store]
  congr 2
  funext q
  rw [e2]
  by_cases hq : q = i.toNat
  · have hq2 : (q : Int) = i := by omega
    simp only [updV, uf, if_pos hq, if_pos hq2]
    rfl
  · have hq2 : ¬ (q : Int) = i := by omega
    simp only [updV, uf, if_neg hq, if_neg hq2]
end MAC
