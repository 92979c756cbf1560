def ma_df : FieldType → ma_V
  | .int => vi 0
  | .boolean => vi 0
  | .byte => vi 0
  | .short => vi 0
  | .char => vi 0
  | .long => vl 0
  | _ => vz
def ma_ok0 : FieldType → Bool
  | .float => false
  | .double => false
  | _ => true
theorem ma_df_ok (ad : Nat → Nat) {t : FieldType} (h : ma_ok0 t = true) : defaultValue t = ma_rv ad (ma_df t) := by
  cases t <;> first | rfl | (exact absurd h (by decide))
theorem ma_fresh {D : va_G} {cT : Nat → ClassId} {ad : Nat → Nat} {base nx : Nat} {h : ma_H} {A : Nat → Prop} {H H1 : Heap} {c : ma_C} (hp : ma_HP D cT ad base nx h A H) (had : ∀ k, k < 1000000 → ad k = base + k) (hnx : nx + 1 < 1000000) (hA : A (ad nx)) (hz : H1.size = H.size + 1) (ho : ∀ q, q < H.size → H1[q]? = H[q]?) (ha : va_at D vwCl (ad nx, ma_re cT ad c) H1) : ma_HP D cT ad base (nx + 1) (ma_up h nx c) A H1 := by
  have hsz := hp.1 (by omega)
  refine ⟨fun _ => by rw [hz, hsz]; omega, fun j hj => ?_⟩
  by_cases e : j = nx
  · subst e
    rw [ma_up_s]
    exact ⟨by omega, by omega, hA, ha⟩
  · rw [ma_up_n e] at hj ⊢
    obtain ⟨h1, h2, h3, h4⟩ := hp.2 j hj
    refine ⟨by omega, h2, h3, h4.kept (ho _ ?_)⟩
    show ad j < H.size
    rw [had j h2, hsz]
    omega
section MAN
variable {scr : Option (Nat × (Int → Int))} {M : ma_M} {d kc ks pc : Nat} {lv : List (Option ma_V)} {st : List ma_V} {h : ma_H} {nx : Nat} {Q : Option ma_V → ma_H → Nat → Prop}
theorem ma_new {idx ci N : Nat} {C : String} {T : u_T} {ty : Nat → FieldType} (hd : decode M.2.1 pc = .ok (.new idx, 3)) (hc : ma_CF ci C T N ty) (hw1 : Cond.classLink M.1.cls idx C ∈ ma_gt) (hw2 : Cond.instantiable C N ∈ ma_gt) (hw3 : Cond.initialized C ∈ ma_gt) (hty : ∀ j, j < N → ma_ok0 (ty j) = true) (hnx : nx + 1 < 1000000) (K : ma_J scr M d kc ks (pc + 3) lv (vr nx :: st) (ma_up h nx (co ci ((List.range N).map (fun j => ma_df (ty j))))) (nx + 1) Q) : ma_J scr M d (kc + 1) (ks + N) pc lv st h nx Q := by
  obtain ⟨c1, c2, c3, c4⟩ := hc
  intro p l e R s m args below meth c D cT A ad base H locs cells slots ls Z CX hA SP HP hS hl hf hL hc hs FIN
  have hts := CX.2.2.2.2.2.2.1
  have hsz := HP.1 (by omega)
  have had : ad nx = H.size := by rw [SP.1 nx (by omega), hsz]
  have hKn := SP.2.1.1 ci _ c1
  refine W.newcK CX.1 CX.2.1 CX.2.2.2.2.1 (hts _ hw1) (hts _ hw2) (hts _ hw3) rfl hd (by omega) (by omega) hKn.2.1 rfl fun H1 kC hkC e1 z1 o1 => ?_
  have hb := u_born ty hts c2 hKn hkC e1 c3
  have HP' := ma_fresh (c := co ci ((List.range N).map (fun j => ma_df (ty j)))) HP SP.1 hnx (hA _ (by rw [had]; exact hS.1)) z1 o1 (by
    show ∃ r : vw_C, _
    rw [had]
    refine ⟨_, c1, hb.to (fun j hj => ?_)⟩
    rw [ma_df_ok ad (hty j hj)]
    simp [vp_V, hj])
  have K1 := K p l e R s m args below meth c D cT A ad base H1 locs (cells + 1) (slots + N) ls Z CX hA SP HP' ⟨Nat.le_trans hS.1 (by omega), fun x h1 h2 => (o1 x (Nat.lt_of_lt_of_le h1 hS.1)).trans (hS.2.1 x h1 h2), hS.2.2⟩ hl hf hL (by omega) (by omega) FIN
  rw [List.map_cons, ma_rv, had] at K1
  exact K1
def ma_at : Nat → ArrayType
  | 0 => .int
  | 1 => .long
  | 2 => .byte
  | _ => .boolean
theorem ma_newa {t n : Nat} (hd : decode M.2.1 pc = .ok (.newarray (ma_at t), 2)) (ht : t < 4) (hw : Cond.arrayClass (newarray.typeOf (ma_at t)) ∈ ma_gt) (hn : n ≤ 60000000) (hnx : nx + 1 < 1000000) (K : ma_J scr M d kc ks (pc + 2) lv (vr nx :: st) (ma_up h nx (.inl (t, n, fun _ => 0))) (nx + 1) Q) : ma_J scr M d (kc + 1) (ks + n) pc lv (vi n :: st) h nx Q := by
  intro p l e R s m args below meth c D cT A ad base H locs cells slots ls Z CX hA SP HP hS hl hf hL hc hs FIN
  have hts := CX.2.2.2.2.2.2.1
  have hsz := HP.1 (by omega)
  have had : ad nx = H.size := by rw [SP.1 nx (by omega), hsz]
  have e0 : (Int32.ofInt (n : Int)).toInt = n := iw_of (by omega) (by omega)
  have e2 : (Int32.ofInt (n : Int)).toNatClampNeg = n := by
    show (Int32.ofInt (n : Int)).toInt.toNat = n
    rw [e0]; omega
  refine va_newaK CX.1 CX.2.1 (hts _ hw) (g := F0 m pc ls ((vi n :: st).map (ma_rv ad))) rfl hd (n := Int32.ofInt (n : Int)) (N := n) (rest := st.map (ma_rv ad)) rfl (fun q => by have := iw_lt.mp (show Int32.ofInt (n : Int) < Int32.ofInt 0 from q); rw [iw_0] at this; unfold iw at this; omega) e2 ?_ (by omega) (by omega) rfl fun H1 cA e1 z1 o1 hAr hNm => ?_
  · have : componentBytes (newarray.typeOf (ma_at t)) ≤ 8 := by
      rcases (show t = 0 ∨ t = 1 ∨ t = 2 ∨ t = 3 by omega) with rfl | rfl | rfl | rfl <;> decide
    calc n * componentBytes (newarray.typeOf (ma_at t)) ≤ n * 8 := Nat.mul_le_mul_left _ this
      _ ≤ 536870912 := by omega
  have hcA : cA = cT t := by
    rcases (show t = 0 ∨ t = 1 ∨ t = 2 ∨ t = 3 by omega) with rfl | rfl | rfl | rfl
    · exact Option.some.inj (hNm.symm.trans (SP.2.1.2 0 _ rfl).2)
    · exact Option.some.inj (hNm.symm.trans (SP.2.1.2 1 _ rfl).2)
    · exact Option.some.inj (hNm.symm.trans (SP.2.1.2 2 _ rfl).2)
    · exact Option.some.inj (hNm.symm.trans (SP.2.1.2 3 _ rfl).2)
  have HP' := ma_fresh (c := .inl (t, n, fun _ => 0)) HP SP.1 hnx (hA _ (by rw [had]; exact hS.1)) z1 o1 (by
    show H1[ad nx]? = some (vp_cell _ _)
    rw [had, e1, hcA]
    rcases (show t = 0 ∨ t = 1 ∨ t = 2 ∨ t = 3 by omega) with rfl | rfl | rfl | rfl <;> rfl)
  have K1 := K p l e R s m args below meth c D cT A ad base H1 locs (cells + 1) (slots + n) ls Z CX hA SP HP' ⟨Nat.le_trans hS.1 (by omega), fun x h1 h2 => (o1 x (Nat.lt_of_lt_of_le h1 hS.1)).trans (hS.2.1 x h1 h2), hS.2.2⟩ hl hf hL (by omega) (by omega) FIN
  rw [List.map_cons, ma_rv, had] at K1
  exact K1
theorem ma_newq {idx n : Nat} (hd : decode M.2.1 pc = .ok (.anewarray idx, 3)) (hw1 : Cond.classLink M.1.cls idx "GluedSolids$Solid" ∈ ma_gt) (h0 : 0 < n) (hn : n ≤ 60000000) (hnx : nx + 1 < 1000000) (K : ma_J scr M d kc ks (pc + 3) lv (vr nx :: st) (ma_up h nx (cq n (fun _ => none))) (nx + 1) Q) : ma_J scr M d (kc + 1) (ks + n) pc lv (vi n :: st) h nx Q := by
  intro p l e R s m args below meth c D cT A ad base H locs cells slots ls Z CX hA SP HP hS hl hf hL hc hs FIN
  have hts := CX.2.2.2.2.2.2.1
  have hsz := HP.1 (by omega)
  have had : ad nx = H.size := by rw [SP.1 nx (by omega), hsz]
  have e0 : (Int32.ofInt (n : Int)).toInt = n := iw_of (by omega) (by omega)
  have e2 : (Int32.ofInt (n : Int)).toNatClampNeg = n := by
    show (Int32.ofInt (n : Int)).toInt.toNat = n
    rw [e0]; omega
  refine W.anew CX.1 CX.2.1 CX.2.2.2.2.1 (hts _ hw1) (va_AO.use SP.2.2.2.2.1) (g := F0 m pc ls ((vi n :: st).map (ma_rv ad))) rfl hd (n := Int32.ofInt (n : Int)) (rest := st.map (ma_rv ad)) rfl (fun q => by have := iw_lt.mp (show Int32.ofInt (n : Int) < Int32.ofInt 0 from q); rw [iw_0] at this; unfold iw at this; omega) (by rw [e2]; omega) (by omega) (by rw [e2]; omega) fun cA kA comp f1 f2 f3 f4 => ?_
  generalize hH1 : H.push ({ cls := cA, slots := Array.replicate (Int32.ofInt (n : Int)).toNatClampNeg .null, vm := .none } : Cell) = H1
  have z1 : H1.size = H.size + 1 := by rw [← hH1, Array.size_push]
  have e1 : H1[H.size]? = some (arrV cA n (fun _ => .null)) := by rw [← hH1, Array.getElem?_push_size, e2, ← arrV_new]
  have o1 : ∀ q : Nat, q < H.size → H1[q]? = H[q]? := fun q hq => by rw [← hH1, Array.getElem?_push, if_neg (Nat.ne_of_lt hq)]
  have hcA : cA = cT 4 := by
    obtain ⟨kA', comp', g1, g2, g3, g4⟩ := (SP.2.1.2 4 _ rfl).2
    exact Option.some.inj (f1.symm.trans g4)
  have HP' := ma_fresh (c := cq n (fun _ => none)) HP SP.1 hnx (hA _ (by rw [had]; exact hS.1)) z1 o1 (by
    show H1[ad nx]? = some (vp_cell _ _)
    rw [had, e1, hcA]
    rfl)
  have K1 := K p l e R s m args below meth c D cT A ad base H1 locs (cells + 1) (slots + n) ls Z CX hA SP HP' ⟨Nat.le_trans hS.1 (by omega), fun x h1 h2 => (o1 x (Nat.lt_of_lt_of_le h1 hS.1)).trans (hS.2.1 x h1 h2), hS.2.2⟩ hl hf hL (by omega) (by omega) FIN
  rw [List.map_cons, ma_rv, had] at K1
  rw [e2]
  exact K1
/-- returns -/
theorem ma_ret {r : Option ma_V} (hr : ma_rt M pc r) (hst : st = r.toList) (K : Q r h nx) : ma_J scr M d kc ks pc lv st h nx Q := by
  subst hst
  intro p l e R s m args below meth c D cT A ad base H locs cells slots ls Z CX hA SP HP hS hl hf hL hc hs FIN
  exact FIN r h nx H locs cells slots pc ls K HP hS (by omega) (by omega) hr
theorem ma_vret (hd : decode M.2.1 pc = .ok (.return_, 1)) (hr : M.2.2.2 = none) (K : Q none h nx) : ma_J scr M d kc ks pc lv [] h nx Q := ma_ret (Or.inl ⟨hd, hr, rfl⟩) rfl K
theorem ma_iret {x : Int} (hd : decode M.2.1 pc = .ok (.ireturn, 1)) (hr : M.2.2.2 = some .int) (K : Q (some (vi x)) h nx) : ma_J scr M d kc ks pc lv [vi x] h nx Q := ma_ret (Or.inr (Or.inl ⟨x, hd, Or.inl hr, rfl⟩)) rfl K
theorem ma_zret {x : Int} (hd : decode M.2.1 pc = .ok (.ireturn, 1)) (hr : M.2.2.2 = some .boolean) (hx : x = 0 ∨ x = 1) (K : Q (some (vi x)) h nx) : ma_J scr M d kc ks pc lv [vi x] h nx Q := ma_ret (Or.inr (Or.inl ⟨x, hd, Or.inr ⟨hr, hx⟩, rfl⟩)) rfl K
theorem ma_lret {x : Int} (hd : decode M.2.1 pc = .ok (.lreturn, 1)) (hr : M.2.2.2 = some .long) (K : Q (some (vl x)) h nx) : ma_J scr M d kc ks pc lv [vl x] h nx Q := ma_ret (Or.inr (Or.inr ⟨x, hd, hr, rfl⟩)) rfl K
/-- weaker ends, more room -/
theorem ma_mono {Q' : Option ma_V → ma_H → Nat → Prop} {kc' ks' d' : Nat} (hd : d ≤ d') (hc : kc ≤ kc') (hs : ks ≤ ks') (hQ : ∀ r h' nx', Q r h' nx' → Q' r h' nx') (K : ma_J scr M d kc ks pc lv st h nx Q) : ma_J scr M d' kc' ks' pc lv st h nx Q' := by
  intro p l e R s m args below meth c D cT A ad base H locs cells slots ls Z CX hA SP HP hS hl hf hL hc2 hs2 FIN
  exact K p l e R s m args below meth c D cT A ad base H locs cells slots ls Z CX hA SP HP hS hl (by omega) (by omega) (by omega) (by omega) (fun r h' nx' H' l' c' s' pc' ls' q => FIN r h' nx' H' l' c' s' pc' ls' (hQ _ _ _ q))
end MAN
