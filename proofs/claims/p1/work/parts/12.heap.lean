def jcmp (x y : Int) : Int := if jw x < jw y then -1 else if jw x = jw y then 0 else 1
theorem jcmp_ok (x y : Int) : lg_cmp (Int64.ofInt x) (Int64.ofInt y) = Int32.ofInt (jcmp x y) := by
  unfold lg_cmp jcmp
  by_cases h1 : jw x < jw y
  · have e1 : Int64.ofInt x < Int64.ofInt y := jw_lt.mpr h1
    have e2 : ¬ Int64.ofInt y < Int64.ofInt x := fun q => by have := jw_lt.mp q; omega
    have e3 : ¬ Int64.ofInt x = Int64.ofInt y := fun q => by have := jw_eq.mp q; omega
    simp [e1, e2, e3, h1]
  · by_cases h2 : jw x = jw y
    · have e3 : Int64.ofInt x = Int64.ofInt y := jw_eq.mpr h2
      have e1 : ¬ Int64.ofInt x < Int64.ofInt y := fun q => h1 (jw_lt.mp q)
      have e2 : ¬ Int64.ofInt y < Int64.ofInt x := fun q => by have := jw_lt.mp q; omega
      have e4 : ¬ jw x < jw y := h1
      simp only [if_neg e4, if_pos h2]
      simp [e3]
    · have e1 : ¬ Int64.ofInt x < Int64.ofInt y := fun q => h1 (jw_lt.mp q)
      have e2 : Int64.ofInt y < Int64.ofInt x := jw_lt.mpr (by omega)
      have e3 : ¬ Int64.ofInt x = Int64.ofInt y := fun q => h2 (jw_eq.mp q)
      simp [e1, e2, e3, h1, h2]
section MAH
variable {scr : Option (Nat × (Int → Int))} {M : ma_M} {d kc ks pc : Nat} {lv : List (Option ma_V)} {st : List ma_V} {h : ma_H} {nx : Nat} {Q : Option ma_V → ma_H → Nat → Prop}
theorem ma_lcmp {x y : Int} (hd : decode M.2.1 pc = .ok (.lcmp, 1)) (K : ma_J scr M d kc ks (pc + 1) lv (vi (jcmp x y) :: st) h nx Q) : ma_J scr M d kc ks pc lv (vl y :: vl x :: st) h nx Q :=
  ma_go (fun _ _ _ _ _ _ _ _ _ _ _ _ _ _ _ _ _ CX k => W.lcmp CX.1 CX.2.1 hd (by rw [jcmp_ok]; exact k)) K
/-- a switch on x that goes to tgt -/
theorem ma_tableIn {dflt lo hi : Int} {offs : Array Int} {len : Nat} {x : Int} {off : Int} (tgt : Nat) (hd : decode M.2.1 pc = .ok (.tableswitch dflt lo hi offs, len)) (h1 : lo ≤ iw x) (h2 : iw x ≤ hi) (ho : offs[(iw x - lo).toNat]? = some off) (ht : (pc : Int) + off = (tgt : Int)) (K : ma_J scr M d kc ks tgt lv st h nx Q) : ma_J scr M d kc ks pc lv (vi x :: st) h nx Q :=
  ma_go (fun _ _ _ _ _ _ _ _ _ _ _ _ _ _ _ _ _ CX k => lv_tableIn CX.1 CX.2.1 hd (Int.not_lt.mpr h1) (Int.not_lt.mpr h2) ho ht k) K
theorem ma_tableOut {dflt lo hi : Int} {offs : Array Int} {len : Nat} {x : Int} (tgt : Nat) (hd : decode M.2.1 pc = .ok (.tableswitch dflt lo hi offs, len)) (h1 : iw x < lo ∨ hi < iw x) (ht : (pc : Int) + dflt = (tgt : Int)) (K : ma_J scr M d kc ks tgt lv st h nx Q) : ma_J scr M d kc ks pc lv (vi x :: st) h nx Q :=
  ma_go (fun _ _ _ _ _ _ _ _ _ _ _ _ _ _ _ _ _ CX k => lv_tableOut CX.1 CX.2.1 hd h1 ht k) K
theorem ma_lookup {dflt : Int} {ps : Array (Int × Int)} {len : Nat} {x : Int} {off : Int} (tgt : Nat) (hd : decode M.2.1 pc = .ok (.lookupswitch dflt ps, len)) (hp : (ps.toList.zip (ps.toList.drop 1)).all (fun (a, next) => a.1 < next.1) = true) (ho : Op.lookupswitch.offset ps.toList dflt (iw x) = off) (ht : (pc : Int) + off = (tgt : Int)) (K : ma_J scr M d kc ks tgt lv st h nx Q) : ma_J scr M d kc ks pc lv (vi x :: st) h nx Q :=
  ma_go (fun _ _ _ _ _ _ _ _ _ _ _ _ _ _ _ _ _ CX k => lv_lookup CX.1 CX.2.1 hd hp ho ht k) K
/-- stores -/
def ma_k1 (lv : List (Option ma_V)) (j : Nat) : List (Option ma_V) := match lv[j]? with
  | some (some (.inr (.inl _))) => lv.set j none
  | _ => lv
def ma_kill (lv : List (Option ma_V)) : Nat → List (Option ma_V)
  | 0 => lv
  | j + 1 => ma_k1 lv j
def ma_st1 (lv : List (Option ma_V)) (i : Nat) (v : ma_V) : List (Option ma_V) := (ma_kill lv i).set i (some v)
def ma_st2 (lv : List (Option ma_V)) (i : Nat) (v : ma_V) : List (Option ma_V) := ((ma_kill lv i).set i (some v)).set (i + 1) none
def ma_as (ad : Nat → Nat) (lv : List (Option ma_V)) : List (Nat × Value) := (List.range lv.length).filterMap (fun i => match lv[i]? with | some (some v) => some (i, ma_rv ad v) | _ => none)
theorem ma_as_mem {ad : Nat → Nat} {lv : List (Option ma_V)} {i : Nat} {v : ma_V} (e : lv[i]? = some (some v)) : (i, ma_rv ad v) ∈ ma_as ad lv := by
  refine List.mem_filterMap.mpr ⟨i, List.mem_range.mpr (List.getElem?_eq_some_iff.mp e).1, ?_⟩
  rw [e]
theorem ma_as_of {ad : Nat → Nat} {lv : List (Option ma_V)} {q : Nat × Value} (hq : q ∈ ma_as ad lv) : ∃ v, lv[q.1]? = some (some v) ∧ q.2 = ma_rv ad v := by
  obtain ⟨i, -, e⟩ := List.mem_filterMap.mp hq
  split at e
  · rename_i v hv
    cases e
    exact ⟨v, hv, rfl⟩
  · cases e
theorem ma_L.has {ad : Nat → Nat} {ls : Array Slot} {n : Nat} {lv : List (Option ma_V)} (L : ma_L ad ls n lv) : lv_has ls n (ma_as ad lv) := by
  refine ⟨L.1, L.2.1, fun q hq => ?_⟩
  obtain ⟨v, e1, e2⟩ := ma_as_of hq
  rw [e2]
  exact L.2.2 _ _ e1
theorem ma_kill_get {lv : List (Option ma_V)} {i j : Nat} {v : ma_V} (e : (ma_kill lv i)[j]? = some (some v)) : lv[j]? = some (some v) ∧ (j + 1 = i → ma_one v = true) := by
  cases i with
  | zero => exact ⟨e, fun q => by omega⟩
  | succ i =>
    replace e : (ma_k1 lv i)[j]? = some (some v) := e
    unfold ma_k1 at e
    split at e
    · rename_i w hw
      by_cases hj : j = i
      · subst hj
        rw [List.getElem?_set] at e
        simp at e
      · rw [List.getElem?_set_ne (fun q => hj q.symm)] at e
        exact ⟨e, fun q => absurd (Nat.succ.inj q) hj⟩
    · rename_i hn
      refine ⟨e, fun q => ?_⟩
      have hj : j = i := Nat.succ.inj q
      subst hj
      rcases v with a | b | k
      · rfl
      · exact absurd e (hn b)
      · rfl
theorem ma_L.st1 {ad : Nat → Nat} {ls' : Array Slot} {n i : Nat} {lv : List (Option ma_V)} {v : ma_V} (h' : lv_has ls' n ((i, ma_rv ad v) :: (ma_as ad lv).filter (fun q => !(q.1 == i) && !(q.1 + 1 == i && q.2.category == 2)))) : ma_L ad ls' n (ma_st1 lv i v) := by
  refine ⟨h'.1, h'.2.1, fun j w e => ?_⟩
  by_cases hj : j = i
  · subst hj
    have hlt := (List.getElem?_eq_some_iff.mp e).1
    have e2 : w = v := by
      unfold ma_st1 at e
      rw [List.getElem?_set] at e
      simp at e
      exact e.2.symm
    subst e2
    exact h'.2.2 (j, _) List.mem_cons_self
  · unfold ma_st1 at e
    rw [List.getElem?_set_ne (fun q => hj q.symm)] at e
    obtain ⟨e1, e2⟩ := ma_kill_get e
    refine h'.2.2 (j, ma_rv ad w) (List.mem_cons_of_mem _ (List.mem_filter.mpr ⟨ma_as_mem e1, ?_⟩))
    have hc : j + 1 = i → ¬ (ma_rv ad w).category = 2 := fun q => by rw [ma_one_cat ad (e2 q)]; decide
    simp only [Bool.and_eq_true, Bool.not_eq_true', beq_eq_false_iff_ne, ne_eq, Bool.and_eq_false_iff]
    refine ⟨hj, ?_⟩
    by_cases hq : j + 1 = i
    · exact Or.inr (hc hq)
    · exact Or.inl hq
theorem ma_L.st2 {ad : Nat → Nat} {ls' : Array Slot} {n i : Nat} {lv : List (Option ma_V)} {v : ma_V} (h' : lv_has ls' n ((i, ma_rv ad v) :: (ma_as ad lv).filter (fun q => !(q.1 == i) && (!(q.1 == i + 1) && !(q.1 + 1 == i && q.2.category == 2))))) : ma_L ad ls' n (ma_st2 lv i v) := by
  refine ⟨h'.1, h'.2.1, fun j w e => ?_⟩
  unfold ma_st2 at e
  by_cases hj2 : j = i + 1
  · subst hj2
    rw [List.getElem?_set] at e
    simp at e
  · rw [List.getElem?_set_ne (fun q => hj2 q.symm)] at e
    by_cases hj : j = i
    · subst hj
      have e2 : w = v := by
        rw [List.getElem?_set] at e
        simp at e
        exact e.2.symm
      subst e2
      exact h'.2.2 (j, _) List.mem_cons_self
    · rw [List.getElem?_set_ne (fun q => hj q.symm)] at e
      obtain ⟨e1, e2⟩ := ma_kill_get e
      refine h'.2.2 (j, ma_rv ad w) (List.mem_cons_of_mem _ (List.mem_filter.mpr ⟨ma_as_mem e1, ?_⟩))
      have hc : j + 1 = i → ¬ (ma_rv ad w).category = 2 := fun q => by rw [ma_one_cat ad (e2 q)]; decide
      simp only [Bool.and_eq_true, Bool.not_eq_true', beq_eq_false_iff_ne, ne_eq, Bool.and_eq_false_iff]
      refine ⟨hj, hj2, ?_⟩
      by_cases hq : j + 1 = i
      · exact Or.inr (hc hq)
      · exact Or.inl hq
/-- a step that stores a local -/
theorem ma_goS {pc2 : Nat} {st2 : List ma_V} {lv2 : List (Option ma_V)} (f : ∀ (p : Program) (l : Launch) (e : Env) (R : Room) (s : State) (m : MethodId) (args : Array Value) (below : List Frame) (meth : Method) (c : Code) (ad : Nat → Nat) (H : Heap) (locs : List Loc) (cells slots : Nat) (ls : Array Slot) (Z : State → Prop),
      ma_CX M p l s m args meth c → ma_L ad ls M.2.2.1 lv → (∀ ls' : Array Slot, ma_L ad ls' M.2.2.1 lv2 → W p l e R s m args below meth c H locs cells slots Z (F0 m pc2 ls' (st2.map (ma_rv ad)))) → W p l e R s m args below meth c H locs cells slots Z (F0 m pc ls (st.map (ma_rv ad))))
    (K : ma_J scr M d kc ks pc2 lv2 st2 h nx Q) : ma_J scr M d kc ks pc lv st h nx Q := by
  intro p l e R s m args below meth c D cT A ad base H locs cells slots ls Z CX hA SP HP hS hl hf hL hc hs FIN
  exact f p l e R s m args below meth c ad H locs cells slots ls Z CX hl (fun ls' hl' => K p l e R s m args below meth c D cT A ad base H locs cells slots ls' Z CX hA SP HP hS hl' hf hL hc hs FIN)
theorem ma_istore_n {k : Fin 4} {x : Int} (hd : decode M.2.1 pc = .ok (.istore_n k, 1)) (hn : (k : Nat) < M.2.2.1) (K : ma_J scr M d kc ks (pc + 1) (ma_st1 lv k (vi x)) st h nx Q) : ma_J scr M d kc ks pc lv (vi x :: st) h nx Q :=
  ma_goS (fun _ _ _ _ _ _ _ _ _ _ _ _ _ _ _ _ _ CX L k => lv_istore_n CX.1 CX.2.1 hd rfl L.has hn rfl (fun ls' h' => k ls' (ma_L.st1 h'))) K
theorem ma_istore {i : Nat} {x : Int} (hd : decode M.2.1 pc = .ok (.istore i, 2)) (hn : i < M.2.2.1) (K : ma_J scr M d kc ks (pc + 2) (ma_st1 lv i (vi x)) st h nx Q) : ma_J scr M d kc ks pc lv (vi x :: st) h nx Q :=
  ma_goS (fun _ _ _ _ _ _ _ _ _ _ _ _ _ _ _ _ _ CX L k => lv_istore CX.1 CX.2.1 hd L.has hn rfl (fun ls' h' => k ls' (ma_L.st1 h'))) K
theorem ma_lstore_n {k : Fin 4} {x : Int} (hd : decode M.2.1 pc = .ok (.lstore_n k, 1)) (hn : (k : Nat) + 1 < M.2.2.1) (K : ma_J scr M d kc ks (pc + 1) (ma_st2 lv k (vl x)) st h nx Q) : ma_J scr M d kc ks pc lv (vl x :: st) h nx Q :=
  ma_goS (fun _ _ _ _ _ _ _ _ _ _ _ _ _ _ _ _ _ CX L k => lv_lstore_n CX.1 CX.2.1 hd rfl L.has hn rfl (fun ls' h' => k ls' (ma_L.st2 h'))) K
theorem ma_lstore {i : Nat} {x : Int} (hd : decode M.2.1 pc = .ok (.lstore i, 2)) (hn : i + 1 < M.2.2.1) (K : ma_J scr M d kc ks (pc + 2) (ma_st2 lv i (vl x)) st h nx Q) : ma_J scr M d kc ks pc lv (vl x :: st) h nx Q :=
  ma_goS (fun _ _ _ _ _ _ _ _ _ _ _ _ _ _ _ _ _ CX L k => lv_lstore CX.1 CX.2.1 hd L.has hn rfl (fun ls' h' => k ls' (ma_L.st2 h'))) K
theorem ma_astore_n {k : Fin 4} {x : Nat} (hd : decode M.2.1 pc = .ok (.astore_n k, 1)) (hn : (k : Nat) < M.2.2.1) (K : ma_J scr M d kc ks (pc + 1) (ma_st1 lv k (vr x)) st h nx Q) : ma_J scr M d kc ks pc lv (vr x :: st) h nx Q :=
  ma_goS (fun _ _ _ _ _ _ _ _ _ _ _ _ _ _ _ _ _ CX L k => lv_astore_n CX.1 CX.2.1 hd rfl L.has hn rfl (fun ls' h' => k ls' (ma_L.st1 h'))) K
theorem ma_astore {i : Nat} {x : Nat} (hd : decode M.2.1 pc = .ok (.astore i, 2)) (hn : i < M.2.2.1) (K : ma_J scr M d kc ks (pc + 2) (ma_st1 lv i (vr x)) st h nx Q) : ma_J scr M d kc ks pc lv (vr x :: st) h nx Q :=
  ma_goS (fun _ _ _ _ _ _ _ _ _ _ _ _ _ _ _ _ _ CX L k => lv_astore CX.1 CX.2.1 hd L.has hn rfl (fun ls' h' => k ls' (ma_L.st1 h'))) K
theorem ma_find {l : List (Nat × Value)} {q : Nat × Value} (hq : q ∈ l) : ∃ k : Nat, l[k]? = some q := List.getElem?_of_mem hq
theorem ma_iinc {i : Nat} {n x : Int} (hd : decode M.2.1 pc = .ok (.iinc i n, 3)) (hl : lv[i]? = some (some (vi x))) (hn : i < M.2.2.1) (K : ma_J scr M d kc ks (pc + 3) (ma_st1 lv i (vi (x + n))) st h nx Q) : ma_J scr M d kc ks pc lv st h nx Q :=
  ma_goS (fun _ _ _ _ _ _ _ _ _ _ ad _ _ _ _ _ _ CX L k => by
    obtain ⟨q, hq⟩ := ma_find (ma_as_mem (ad := ad) hl)
    exact lv_iinc CX.1 CX.2.1 hd L.has hq (Int32.ofInt_add x n).symm hn rfl (fun ls' h' => k ls' (ma_L.st1 h'))) K
theorem ma_HP.get {D : va_G} {cT : Nat → ClassId} {ad : Nat → Nat} {base nx : Nat} {h : ma_H} {A : Nat → Prop} {H : Heap} (hp : ma_HP D cT ad base nx h A H) {k : Nat} {c : ma_C} (hk : h k = c) (hl : ma_lv c = true) : va_P D vwCl [(ad k, ma_re cT ad c)] H ∧ A (ad k) := by
  subst hk
  obtain ⟨-, -, h3, h4⟩ := hp.2 k hl
  refine ⟨fun i q hq => ?_, h3⟩
  have hz : i < 1 := (List.getElem?_eq_some_iff.mp hq).1
  rw [show i = 0 by omega] at hq
  cases hq
  exact h4
/-- one cell of the world is written -/
theorem ma_HP.put {D : va_G} {cT : Nat → ClassId} {ad : Nat → Nat} {base nx : Nat} {h : ma_H} {A : Nat → Prop} {H H1 : Heap} (hp : ma_HP D cT ad base nx h A H) (had : ∀ k, k < 1000000 → ad k = base + k) {k : Nat} {c : ma_C} (hl : ma_lv (h k) = true) (hz : H1.size = H.size) (hq : ∀ q, q ≠ ad k → H1[q]? = H[q]?) (ha : va_at D vwCl (ad k, ma_re cT ad c) H1) : ma_HP D cT ad base nx (ma_up h k c) A H1 := by
  refine ⟨fun q => by rw [hz]; exact hp.1 q, fun j hj => ?_⟩
  by_cases e : j = k
  · subst e
    rw [ma_up_s]
    obtain ⟨h1, h2, h3, -⟩ := hp.2 j hl
    exact ⟨h1, h2, h3, ha⟩
  · rw [ma_up_n e] at hj ⊢
    obtain ⟨h1, h2, h3, h4⟩ := hp.2 j hj
    refine ⟨h1, h2, h3, h4.kept (hq _ ?_)⟩
    have g2 := (hp.2 k hl).2.1
    show ad j ≠ ad k
    rw [had j h2, had k g2]
    omega
/-- what a class's fields are: by its place in vwCl -/
def ma_CF (ci : Nat) (C : String) (T : u_T) (N : Nat) (ty : Nat → FieldType) : Prop := vwCl[ci]? = some (C, T, N) ∧ (∀ w ∈ u_ws C T N, w ∈ ma_gt) ∧ (∀ j, j < N → parseFieldDescriptor (T j).2.2.1 = some (ty j)) ∧ ∀ a, a < N → ∀ b, b < N → a ≠ b → (T a).2.1 ≠ (T b).2.1
/-- pool number idx of class own is field k of class ci; fin: it is final; isr: it holds references (else ints) -/
def ma_FL (own : String) (idx ci k : Nat) (fin isr : Bool) : Prop := ∃ (C : String) (T : u_T) (N : Nat) (ty : Nat → FieldType), ma_CF ci C T N ty ∧ k < N ∧ Cond.fieldLink own idx (T k).1 (T k).2.1 (T k).2.2.1 ∈ ma_gt ∧ (T k).2.2.2 = fin ∧ (T k).1 = C ∧ (if isr = true then (∃ n, ty k = .object n) ∨ (∃ t, ty k = .array t) else ty k = .int)
/-- a step that reads the world -/
theorem ma_goH {pc2 : Nat} {st2 : List ma_V} (f : ∀ (p : Program) (l : Launch) (e : Env) (R : Room) (s : State) (m : MethodId) (args : Array Value) (below : List Frame) (meth : Method) (c : Code) (D : va_G) (cT : Nat → ClassId) (A : Nat → Prop) (ad : Nat → Nat) (base : Nat) (H : Heap) (locs : List Loc) (cells slots : Nat) (ls : Array Slot) (Z : State → Prop),
      ma_CX M p l s m args meth c → ma_SP D cT ad base A s scr → ma_HP D cT ad base nx h A H → va_S A s.heap H locs → W p l e R s m args below meth c H locs cells slots Z (F0 m pc2 ls (st2.map (ma_rv ad))) → W p l e R s m args below meth c H locs cells slots Z (F0 m pc ls (st.map (ma_rv ad))))
    (K : ma_J scr M d kc ks pc2 lv st2 h nx Q) : ma_J scr M d kc ks pc lv st h nx Q := by
  intro p l e R s m args below meth c D cT A ad base H locs cells slots ls Z CX hA SP HP hS hl hf hL hc hs FIN
  exact f p l e R s m args below meth c D cT A ad base H locs cells slots ls Z CX SP HP hS (K p l e R s m args below meth c D cT A ad base H locs cells slots ls Z CX hA SP HP hS hl hf hL hc hs FIN)
/-- a step that writes one cell -/
theorem ma_goP {pc2 k : Nat} {st2 : List ma_V} {cn : ma_C} (hlv : ma_lv (h k) = true) (f : ∀ (p : Program) (l : Launch) (e : Env) (R : Room) (s : State) (m : MethodId) (args : Array Value) (below : List Frame) (meth : Method) (c : Code) (D : va_G) (cT : Nat → ClassId) (A : Nat → Prop) (ad : Nat → Nat) (base : Nat) (H : Heap) (locs : List Loc) (cells slots : Nat) (ls : Array Slot) (Z : State → Prop),
      ma_CX M p l s m args meth c → ma_SP D cT ad base A s scr → ma_HP D cT ad base nx h A H → (∀ (H1 : Heap) (i : Nat), H1.size = H.size → (∀ q, q ≠ ad k → H1[q]? = H[q]?) → va_at D vwCl (ad k, ma_re cT ad cn) H1 → W p l e R s m args below meth c H1 (locs ++ [⟨ad k, i⟩]) cells slots Z (F0 m pc2 ls (st2.map (ma_rv ad)))) → W p l e R s m args below meth c H locs cells slots Z (F0 m pc ls (st.map (ma_rv ad))))
    (K : ma_J scr M d kc ks pc2 lv st2 (ma_up h k cn) nx Q) : ma_J scr M d kc ks pc lv st h nx Q := by
  intro p l e R s m args below meth c D cT A ad base H locs cells slots ls Z CX hA SP HP hS hl hf hL hc hs FIN
  refine f p l e R s m args below meth c D cT A ad base H locs cells slots ls Z CX SP HP (fun H1 i z oq ha => ?_)
  exact K p l e R s m args below meth c D cT A ad base H1 _ cells slots ls Z CX hA SP (HP.put SP.1 hlv z oq ha) (hS.put z oq (HP.2 k hlv).2.2.1) hl hf hL hc hs FIN
theorem ma_getf {idx a ci k : Nat} {fin isr : Bool} {fs : List ma_V} {v : ma_V} (hd : decode M.2.1 pc = .ok (.getfield idx, 3)) (hl : ma_FL M.1.cls idx ci k fin isr) (ha : h a = co ci fs) (hv : fs[k]? = some v) (K : ma_J scr M d kc ks (pc + 3) lv (v :: st) h nx Q) : ma_J scr M d kc ks pc lv (vr a :: st) h nx Q := by
  obtain ⟨C, T, N, ty, ⟨c1, c2, c3, c4⟩, hk, hw, -, -, -⟩ := hl
  refine ma_goH (fun p l e R s m args below meth c D cT A ad base H locs cells slots ls Z CX SP HP hS kk => ?_) K
  exact va_get CX.1 CX.2.1 CX.2.2.2.2.2.2.1 c2 CX.2.2.2.2.1 SP.2.1 (HP.get ha rfl).1 0 rfl c1 k hk (CX.2.2.2.2.2.2.1 _ hw) (fun _ q => q) (by rw [List.getElem?_map, hv]; rfl) hd kk
theorem ma_fits (ad : Nat → Nat) {isr : Bool} {t : FieldType} {v : ma_V} (ht : if isr = true then (∃ n, t = .object n) ∨ (∃ u, t = .array u) else t = .int) (hv : if isr = true then ∃ r, v = .inr (.inr r) else ∃ x, v = .inl x) : narrow t (ma_rv ad v) = ma_rv ad v ∧ fits t (ma_rv ad v) = true := by
  cases isr with
  | false =>
    simp only [if_neg (by decide : ¬ (false = true))] at ht hv
    obtain ⟨x, rfl⟩ := hv
    subst ht
    exact ⟨rfl, rfl⟩
  | true =>
    simp only [if_pos (rfl : true = true)] at ht hv
    obtain ⟨r, rfl⟩ := hv
    rcases ht with ⟨n, rfl⟩ | ⟨u, rfl⟩ <;> cases r <;> exact ⟨rfl, rfl⟩
end MAH
