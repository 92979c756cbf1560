/-- the cells of the world, and those that come -/
def ma_A (ad : Nat → Nat) (h : ma_H) (sz : Nat) : Nat → Prop := fun q => (∃ k, ma_lv (h k) = true ∧ q = ad k) ∨ sz ≤ q
def ma_Q (D : va_G) (cT : Nat → ClassId) (ad : Nat → Nat) (base : Nat) (A : Nat → Prop) (Q : Option ma_V → ma_H → Nat → Prop) : Array Value → State → Outcome → State → Prop := fun _ st oc t =>
  ∃ (r : Option ma_V) (h' : ma_H) (nx' : Nat), oc = .returned (r.map (ma_rv ad)) ∧ Q r h' nx' ∧ ma_HP D cT ad base nx' h' A t.heap ∧ va_F A st t
def ma_P (D : va_G) (cT : Nat → ClassId) (ad : Nat → Nat) (base sz : Nat) (av : List ma_V) (h : ma_H) (nx : Nat) : Array Value → State → Prop := va_Pc (av.map (ma_rv ad)) (fun U => U.heap.size = sz ∧ ma_SP D cT ad base (ma_A ad h sz) U none ∧ ma_HP D cT ad base nx h (ma_A ad h sz) U.heap)
/-- THE LIGHT CONTRACT: called with av over the world h, method M returns with Q -/
def ma_Ct (M : ma_M) (d mc ms : Nat) (av : List ma_V) (h : ma_H) (nx : Nat) (Q : Option ma_V → ma_H → Nat → Prop) : Prop :=
  ∀ (l : Launch), l.flags = flags0 → ∀ (D : va_G) (cT : Nat → ClassId) (ad : Nat → Nat) (base sz : Nat), Met l M.1 (Cond.code M.1 M.2.1 M.2.2.1 M.2.2.2 :: ma_gt) { frames := d, cells := mc, slots := ms, locals := 42 * d } (ma_P D cT ad base sz av h nx) (ma_Q D cT ad base (ma_A ad h sz) Q) mc ms (ma_A ad h sz)
theorem ma_Nw_warm {w : Cond} {s U : State} (hw : ma_isN w = true) (hW : s.WarmedH U.vm) (h : va_Nw w s) : va_Nw w U := by
  cases w <;> first | exact va_Nw.warmF hW h | exact va_Nw.warmM hW h | (exact absurd hw (by simp [ma_isN]))
theorem ma_Nw_same {w : Cond} {s U : State} (hw : ma_isN w = true) (hv : s.vm = U.vm) (h : va_Nw w s) : va_Nw w U := by
  cases w <;> first | exact va_Nw.same rfl hv h | (exact absurd hw (by simp [ma_isN]))
theorem ma_SP.to {D : va_G} {cT : Nat → ClassId} {ad : Nat → Nat} {base : Nat} {A B : Nat → Prop} {s U : State} {H : Heap} {locs : List Loc} {scr : Option (Nat × (Int → Int))} (SP : ma_SP D cT ad base A s scr) (hW : s.WarmedH U.vm) (hS : va_S A s.heap H locs) (hU : U.heap = H) (hB : ∀ q, B q → A q) : ma_SP D cT ad base B U none := by
  refine ⟨SP.1, va_K.moved hW.alike SP.2.1, fun j hj => ?_, fun w h1 h2 => ma_Nw_warm h2 hW (SP.2.2.2.1 w h1 h2), va_AO.moved hW.alike SP.2.2.2.2.1, by rw [hU]; exact ((SP.2.2.2.2.2.1.kept (fun a g1 g2 => hS.2.1 a g1 g2)).moved hW.alike).narrow hB, by rw [hU]; exact ((SP.2.2.2.2.2.2.1.kept (fun a g1 g2 => hS.2.1 a g1 g2)).moved hW.alike).narrow hB, fun L xs q => by cases q⟩
  obtain ⟨h1, h2⟩ := SP.2.2.1 j hj
  rw [hU]
  exact ⟨((h1.kept (fun a g1 g2 => hS.2.1 a g1 g2)).moved hW.alike).narrow hB, ((h2.kept (fun a g1 g2 => hS.2.1 a g1 g2)).moved hW.alike).narrow hB⟩
theorem ma_SP.blind {D : va_G} {cT : Nat → ClassId} {ad : Nat → Nat} {base : Nat} {A : Nat → Prop} {U : State} {g : JFrame} {mk : MethodId} {a : Array Value} (SP : ma_SP D cT ad base A U none) : ma_SP D cT ad base A (U.calling g mk a) none := by
  refine ⟨SP.1, va_K.moved (u := U) (U := U.calling g mk a) (Vm.Alike.refl U.vm) SP.2.1, fun j hj => ?_, fun w h1 h2 => ma_Nw_same (s := U) (U := U.calling g mk a) h2 rfl (SP.2.2.2.1 w h1 h2), va_AO.moved (u := U) (U := U.calling g mk a) (Vm.Alike.refl U.vm) SP.2.2.2.2.1, SP.2.2.2.2.2.1.moved (u := U) (U := U.calling g mk a) (Vm.Alike.refl U.vm), SP.2.2.2.2.2.2.1.moved (u := U) (U := U.calling g mk a) (Vm.Alike.refl U.vm), fun L xs q => by cases q⟩
  obtain ⟨h1, h2⟩ := SP.2.2.1 j hj
  exact ⟨h1.moved (u := U) (U := U.calling g mk a) (Vm.Alike.refl U.vm), h2.moved (u := U) (U := U.calling g mk a) (Vm.Alike.refl U.vm)⟩
theorem ma_P.blind {D : va_G} {cT : Nat → ClassId} {ad : Nat → Nat} {base sz : Nat} {av : List ma_V} {h : ma_H} {nx : Nat} : FrameBlind (ma_P D cT ad base sz av h nx) := fun _ _ _ _ q => ⟨q.1, q.2.1, q.2.2.1.blind, q.2.2.2⟩
/-- locals at the entry -/
def ma_en : List ma_V → List (Option ma_V)
  | [] => []
  | v :: r => if ma_one v = true then some v :: ma_en r else some v :: none :: ma_en r
def ma_ent (n : Nat) (av : List ma_V) : List (Option ma_V) := ma_en av ++ List.replicate (n - (ma_en av).length) none
theorem ma_two_cat (ad : Nat → Nat) {v : ma_V} (hv : ¬ ma_one v = true) : (ma_rv ad v).category = 2 := by
  rcases v with a | b | k
  · exact absurd rfl hv
  · rfl
  · exact absurd rfl hv
theorem ma_en_args (ad : Nat → Nat) : ∀ (av : List ma_V) (k i : Nat) (v : ma_V), (ma_en av)[i]? = some (some v) → (k + i, ma_rv ad v) ∈ lv_args k (av.map (ma_rv ad))
  | [], k, i, v, e => by simp [ma_en] at e
  | w :: r, k, i, v, e => by
    unfold ma_en at e
    rw [List.map_cons]
    unfold lv_args
    by_cases hw : ma_one w = true
    · rw [if_pos hw] at e
      rw [if_neg (by rw [ma_one_cat ad hw]; decide)]
      cases i with
      | zero =>
        simp only [List.getElem?_cons_zero, Option.some.injEq] at e
        subst e
        exact List.mem_cons_self
      | succ i =>
        rw [List.getElem?_cons_succ] at e
        have := ma_en_args ad r (k + 1) i v e
        rw [show k + 1 + i = k + (i + 1) by omega] at this
        exact List.mem_cons_of_mem _ this
    · rw [if_neg hw] at e
      rw [if_pos (ma_two_cat ad hw)]
      cases i with
      | zero =>
        simp only [List.getElem?_cons_zero, Option.some.injEq] at e
        subst e
        exact List.mem_cons_self
      | succ i =>
        rw [List.getElem?_cons_succ] at e
        cases i with
        | zero => simp at e
        | succ i =>
          rw [List.getElem?_cons_succ] at e
          have := ma_en_args ad r (k + 2) i v e
          rw [show k + 2 + i = k + (i + 1 + 1) by omega] at this
          exact List.mem_cons_of_mem _ this
theorem ma_sl_len (ad : Nat → Nat) : ∀ av : List ma_V, (lg_sl (av.map (ma_rv ad))).length = (ma_en av).length
  | [] => rfl
  | v :: r => by
    have ih := ma_sl_len ad r
    unfold lg_sl at ih ⊢
    rw [List.map_cons, List.flatMap_cons, List.length_append, ih, show ma_en (v :: r) = (if ma_one v = true then some v :: ma_en r else some v :: none :: ma_en r) from rfl]
    by_cases hv : ma_one v = true
    · rw [if_pos hv, if_neg (by rw [ma_one_cat ad hv]; decide)]
      simp only [List.length_cons, List.length_nil]; omega
    · rw [if_neg hv, if_pos (ma_two_cat ad hv)]
      simp only [List.length_cons, List.length_nil]; omega
theorem ma_ent_L (ad : Nat → Nat) {n : Nat} {av : List ma_V} (hn : (ma_en av).length ≤ n) : ma_L ad ((lg_sl (av.map (ma_rv ad)) ++ List.replicate (n - (lg_sl (av.map (ma_rv ad))).length) Slot.unset).toArray) n (ma_ent n av) := by
  have hl := lv_entry (av.map (ma_rv ad)) (n := n) (by rw [ma_sl_len]; exact hn)
  refine ⟨hl.1, hl.2.1, fun i v e => ?_⟩
  have e2 : (ma_en av)[i]? = some (some v) := by
    unfold ma_ent at e
    by_cases hi : i < (ma_en av).length
    · rwa [List.getElem?_append_left hi] at e
    · rw [List.getElem?_append_right (by omega), List.getElem?_replicate] at e
      split at e <;> simp at e
  have := ma_en_args ad av 0 i v e2
  rw [Nat.zero_add] at this
  exact hl.2.2 _ this
/-- from the walk of the body to the contract -/
theorem ma_body {M : ma_M} {d mc ms : Nat} {av : List ma_V} {h : ma_H} {nx : Nat} {Q : Option ma_V → ma_H → Nat → Prop} (hn : (ma_en av).length ≤ M.2.2.1) (K : ma_J none M d mc ms 0 (ma_ent M.2.2.1 av) [] h nx Q) (l : Launch) (hfl : l.flags = flags0) (D : va_G) (cT : Nat → ClassId) (ad : Nat → Nat) (base sz : Nat) :
    ∀ p e s m args below meth c s₁, BodyLoose p l M.1 (headSpec (Cond.code M.1 M.2.1 M.2.2.1 M.2.2.2 :: ma_gt) { frames := d, cells := mc, slots := ms, locals := 42 * d }) M.2.1 M.2.2.1 M.2.2.2 e s m args below meth c s₁ → c.maxLocals = M.2.2.1 → ma_P D cT ad base sz av h nx args s →
      W p l e (headSpec (Cond.code M.1 M.2.1 M.2.2.1 M.2.2.2 :: ma_gt) { frames := d, cells := mc, slots := ms, locals := 42 * d }).room s m args below meth c s.heap [] 0 0 (MQ below (ma_Q D cT ad base (ma_A ad h sz) Q) args s mc ms (ma_A ad h sz)) (entryFrame m args M.2.2.1) := by
  intro p e s m args below meth c s₁ B hml hv
  obtain ⟨rfl, rfl, SP, HP⟩ := hv
  have hts := atoms_spec (ws := Cond.code M.1 M.2.1 M.2.2.1 M.2.2.2 :: ma_gt) B.pre
  rw [lg_entry_eq]
  have hlocks := B.notSynchronized
  refine K p l e _ s m _ below meth c D cT (ma_A ad h s.heap.size) ad base s.heap [] 0 0 _ _ ⟨B.exec, B.bytes, B.returns, hml, findClass_of_methodNamed B.named, hlocks, fun w hw => hts w (List.mem_cons_of_mem _ hw), fun q => (name_of_methodNamed B.named B.method).1.trans q, hfl⟩ (fun q hq => Or.inr hq) SP HP va_S.rf (ma_ent_L ad hn) (Nat.le_refl _) (Nat.le_refl _) (by show 0 + mc ≤ mc; omega) (by show 0 + ms ≤ ms; omega) ?_
  intro r h' nx' H' locs' cells' slots' pc' ls' hQ HP' hS' hc hs hr
  refine W.widen (k := mc) (n := ms) hc hs ?_
  have hq : ∀ t : State, t.heap = H' → s.WarmedH t.vm → ma_Q D cT ad base (ma_A ad h s.heap.size) Q (av.map (ma_rv ad)).toArray s (.returned (r.map (ma_rv ad))) t := fun t ht _ => ⟨r, h', nx', rfl, hQ, by rw [ht]; exact HP', hS'.F ht⟩
  rcases hr with ⟨hd, hr, rfl⟩ | ⟨x, hd, hr | ⟨hr, hx⟩, rfl⟩ | ⟨x, hd, hr, rfl⟩
  · exact W.vret B.exec B.bytes (B.returns.trans hr) hq hS'.2.2 hd
  · exact W.iret B.exec B.bytes (B.returns.trans hr) hq hS'.2.2 hd
  · refine W.zret B.exec B.bytes (B.returns.trans hr) ?_ hq hS'.2.2 hd
    rcases hx with rfl | rfl <;> decide +kernel
  · exact W.lret B.exec B.bytes (B.returns.trans hr) hq hS'.2.2 hd
theorem ma_Ct.of {M : ma_M} {d mc ms : Nat} {av : List ma_V} {h : ma_H} {nx : Nat} {Q : Option ma_V → ma_H → Nat → Prop} (hy : plainName M.1.cls = true) (hn : (ma_en av).length ≤ M.2.2.1) (K : ma_J none M d mc ms 0 (ma_ent M.2.2.1 av) [] h nx Q) : ma_Ct M d mc ms av h nx Q :=
  fun l hfl D cT ad base sz => Met.ofW hy rfl (ma_body hn K l hfl D cT ad base sz)
theorem ma_Ct.ofF {M : ma_M} {d mc ms : Nat} {av : List ma_V} {h : ma_H} {nx : Nat} {Q : Option ma_V → ma_H → Nat → Prop} (hy : plainFor M.1 = true) (hn : (ma_en av).length ≤ M.2.2.1) (K : ma_J none M d mc ms 0 (ma_ent M.2.2.1 av) [] h nx Q) : ma_Ct M d mc ms av h nx Q :=
  fun l hfl D cT ad base sz => va_MetF hy rfl (ma_body hn K l hfl D cT ad base sz)
section MAX
variable {scr : Option (Nat × (Int → Int))} {M : ma_M} {d kc ks pc : Nat} {lv : List (Option ma_V)} {st : List ma_V} {h : ma_H} {nx : Nat} {Q : Option ma_V → ma_H → Nat → Prop}
/-- how wide a stack is -/
def ma_wd : List ma_V → Nat
  | [] => 0
  | v :: r => (if ma_one v = true then 1 else 2) + ma_wd r
theorem ma_wd_ok (ad : Nat → Nat) : ∀ st : List ma_V, ((st.map (ma_rv ad)).map fun v => v.category).sum = ma_wd st
  | [] => rfl
  | v :: r => by
    rw [List.map_cons, List.map_cons, List.sum_cons, ma_wd_ok ad r, show ma_wd (v :: r) = (if ma_one v = true then 1 else 2) + ma_wd r from rfl]
    by_cases hv : ma_one v = true
    · rw [if_pos hv, ma_one_cat ad hv]
    · rw [if_neg hv, ma_two_cat ad hv]
/-- what a callee's name must be -/
def ma_nm (y : MethodName) (n : Nat) : Bool := decide (y.cls ≠ "java/lang/invoke/MethodHandle") && decide (y.cls ≠ "java/lang/invoke/VarHandle") && decide ((parseMethodDescriptor y.desc).map (fun d => d.parameters.length) = some n)
theorem ma_nm_ok {y : MethodName} {n : Nat} (h : ma_nm y n = true) : y.cls ≠ "java/lang/invoke/MethodHandle" ∧ y.cls ≠ "java/lang/invoke/VarHandle" ∧ (parseMethodDescriptor y.desc).map (fun d => d.parameters.length) = some n := by
  unfold ma_nm at h
  simp only [Bool.and_eq_true, decide_eq_true_eq] at h
  exact ⟨h.1.1, h.1.2, h.2⟩
/-- the words of a callee -/
def ma_MW (M : ma_M) (n : Nat) : Prop := Cond.code M.1 M.2.1 M.2.2.1 M.2.2.2 ∈ ma_gt ∧ Cond.initialized M.1.cls ∈ ma_gt ∧ ma_nm M.1 n = true ∧ M.2.2.1 ≤ 23
theorem ma_gt_good (M : ma_M) (hc : Cond.code M.1 M.2.1 M.2.2.1 M.2.2.2 ∈ ma_gt) : GoodIn ma_gt (Cond.code M.1 M.2.1 M.2.2.1 M.2.2.2 :: ma_gt) := by
  intro w hw
  have hm : w ∈ ma_gt := by
    rcases List.mem_cons.mp hw with e | e
    · rw [e]; exact hc
    · exact e
  exact ⟨hm, good_of_word (List.mem_filter.mp hm).2⟩
/-- behind a call -/
theorem ma_back {M' : ma_M} {d' mc ms : Nat} {av : List ma_V} {stc : List ma_V} (hC : ma_Ct M' d' mc ms av h nx (fun r h' nx' => ma_J scr M d kc ks (pc + 3) lv (r.toList ++ st) h' nx' Q))
    (f : ∀ (p : Program) (l : Launch) (e : Env) (R : Room) (s : State) (m : MethodId) (args : Array Value) (below : List Frame) (meth : Method) (c : Code) (D : va_G) (cT : Nat → ClassId) (A : Nat → Prop) (ad : Nat → Nat) (base : Nat) (H : Heap) (locs : List Loc) (cells slots : Nat) (ls : Array Slot),
      ma_CX M p l s m args meth c → ma_SP D cT ad base A s scr → ma_HP D cT ad base nx h A H → ma_L ad ls M.2.2.1 lv → d ≤ R.frames → 42 * d ≤ R.locals → cells + mc ≤ R.cells → slots + ms ≤ R.slots →
      Met l M'.1 (Cond.code M'.1 M'.2.1 M'.2.2.1 M'.2.2.2 :: ma_gt) { frames := d', cells := mc, slots := ms, locals := 42 * d' } (ma_P D cT ad base H.size av h nx) (ma_Q D cT ad base (ma_A ad h H.size) (fun r h' nx' => ma_J scr M d kc ks (pc + 3) lv (r.toList ++ st) h' nx' Q)) mc ms (ma_A ad h H.size) →
      (∀ U : State, U.heap = H → s.WarmedH U.vm → ma_P D cT ad base H.size av h nx (av.map (ma_rv ad)).toArray U) →
      va_Run p l e R s m args below meth c H locs cells slots mc ms (F0 m pc ls (stc.map (ma_rv ad))) (st.map (ma_rv ad)) (ma_Q D cT ad base (ma_A ad h H.size) (fun r h' nx' => ma_J scr M d kc ks (pc + 3) lv (r.toList ++ st) h' nx' Q) (av.map (ma_rv ad)).toArray) (ma_A ad h H.size)) :
    ma_J scr M d (kc + mc) (ks + ms) pc lv stc h nx Q := by
  intro p l e R s m args below meth c D cT A ad base H locs cells slots ls Z CX hA SP HP hS hl hf hL hc hs FIN
  have hfl := CX.2.2.2.2.2.2.2.2
  have hAA : ∀ q, ma_A ad h H.size q → A q := by
    intro q hq
    rcases hq with ⟨k, h1, rfl⟩ | hq
    · exact (HP.2 k h1).2.2.1
    · exact hA q (Nat.le_trans hS.1 hq)
  have HP1 : ma_HP D cT ad base nx h (ma_A ad h H.size) H := ⟨HP.1, fun k hk => ⟨(HP.2 k hk).1, (HP.2 k hk).2.1, Or.inl ⟨k, hk, rfl⟩, (HP.2 k hk).2.2.2⟩⟩
  have hrun := f p l e R s m args below meth c D cT A ad base H locs cells slots ls CX SP HP hl hf hL (by omega) (by omega) (hC l hfl D cT ad base H.size) (fun U hU hW => ⟨rfl, by rw [hU], SP.to hW hS hU hAA, by rw [hU]; exact HP1⟩)
  intro T hT X
  obtain ⟨v, st₀, t, T', L, h0, X', hLf, e1, e2, ⟨r, h', nx', hv, hJ, HP', hz, hk⟩, go⟩ := hrun T hT X
  have hvr : v = r.map (ma_rv ad) := by
    have := hv
    simpa using this
  subst hvr
  rw [h0] at hz hk
  have HP2 : ma_HP D cT ad base nx' h' A T'.heap := by
    rw [e1]
    exact ⟨HP'.1, fun k hk => ⟨(HP'.2 k hk).1, (HP'.2 k hk).2.1, hAA _ (HP'.2 k hk).2.2.1, (HP'.2 k hk).2.2.2⟩⟩
  have hS2 : va_S A s.heap T'.heap (locs ++ L) := by
    refine ⟨Nat.le_trans hS.1 (by rw [e1]; exact hz), fun q h1 h2 => ?_, fun q hq => ?_⟩
    · rw [e1, hk q (Nat.lt_of_lt_of_le h1 hS.1) (fun z => h2 (hAA q z))]
      exact hS.2.1 q h1 h2
    · rcases List.mem_append.mp hq with g | g
      · exact hS.2.2 q g
      · exact hAA _ (hLf q g)
  have KW := hJ p l e R s m args below meth c D cT A ad base T'.heap (locs ++ L) (cells + mc) (slots + ms) ls Z CX hA SP HP2 hS2 hl hf hL (by omega) (by omega) FIN
  obtain ⟨t2, a1, b1⟩ := KW T' rfl X'
  refine ⟨t2, go t2 ?_, b1⟩
  have e3 : (r.map (ma_rv ad)).toList ++ st.map (ma_rv ad) = (r.toList ++ st).map (ma_rv ad) := by cases r <;> simp
  rw [e3]
  exact a1
theorem ma_rev (ad : Nat → Nat) (av st : List ma_V) : (av.reverse ++ st).map (ma_rv ad) = (av.map (ma_rv ad)).reverse ++ st.map (ma_rv ad) := by simp
theorem ma_callS {idx d' mc ms : Nat} {M' : ma_M} (av : List ma_V) (hd : decode M.2.1 pc = .ok (.invokestatic idx, 3)) (hw : ma_MW M' av.length) (hl : Cond.methodLink M.1.cls idx M'.1 ∈ ma_gt) (hs : Cond.static M'.1 ∈ ma_gt) (hd' : d' + 1 ≤ d) (hwd : ma_wd st ≤ 8) (hC : ma_Ct M' d' mc ms av h nx (fun r h' nx' => ma_J scr M d kc ks (pc + 3) lv (r.toList ++ st) h' nx' Q)) : ma_J scr M d (kc + mc) (ks + ms) pc lv (av.reverse ++ st) h nx Q := by
  refine ma_back hC (fun p l e R s m args below meth c D cT A ad base H locs cells slots ls CX SP HP L hf hL hc hs2 hM hP => ?_)
  have hts := CX.2.2.2.2.2.2.1
  refine va_runS ⟨CX.1, CX.2.1, CX.2.2.2.1, CX.2.2.2.2.1, hts⟩ hM ⟨callB_of av.length hts (ma_gt_good M' hw.1) rfl rfl rfl (hts _ hw.2.1) (hts _ hl) (ma_nm_ok hw.2.2.1) ⟨by show d' + 1 ≤ R.frames; omega, by show 8 + (M'.2.2.1 + 11) + 42 * d' ≤ R.locals; have := hw.2.2.2; omega⟩, hts _ hs⟩ ⟨ma_P.blind, hP⟩ rfl (by simp) L.1 (ma_rev ad av st) ?_ hd ⟨hc, hs2⟩
  rw [ma_wd_ok]
  show 2 * 0 + ma_wd st ≤ 8
  omega
theorem ma_callV {idx d' mc ms b ci N : Nat} {M' : ma_M} {T : u_T} {fs : List ma_V} (av : List ma_V) (hd : decode M.2.1 pc = .ok (.invokevirtual idx, 3)) (hw : ma_MW M' av.length) (hl : Cond.methodLink M.1.cls idx M'.1 ∈ ma_gt) (hi : Cond.instanceMethod M'.1 ∈ ma_gt) (hse : Cond.selects M'.1.cls M'.1 M'.1 ∈ ma_gt) (hcl : vwCl[ci]? = some (M'.1.cls, T, N)) (hb : h b = co ci fs) (hd' : d' + 1 ≤ d) (hwd : ma_wd st ≤ 8) (hC : ma_Ct M' d' mc ms (vr b :: av) h nx (fun r h' nx' => ma_J scr M d kc ks (pc + 3) lv (r.toList ++ st) h' nx' Q)) : ma_J scr M d (kc + mc) (ks + ms) pc lv (av.reverse ++ vr b :: st) h nx Q := by
  refine ma_back hC (fun p l e R s m args below meth c D cT A ad base H locs cells slots ls CX SP HP L hf hL hc hs2 hM hP => ?_)
  have hts := CX.2.2.2.2.2.2.1
  refine va_runV (As := av.map (ma_rv ad)) (b := ad b) (C := M'.1.cls) ⟨CX.1, CX.2.1, CX.2.2.2.1, CX.2.2.2.2.1, hts⟩ hM ⟨callB_of av.length hts (ma_gt_good M' hw.1) rfl rfl rfl (hts _ hw.2.1) (hts _ hl) (ma_nm_ok hw.2.2.1) ⟨by show d' + 1 ≤ R.frames; omega, by show 8 + (M'.2.2.1 + 11) + 42 * d' ≤ R.locals; have := hw.2.2.2; omega⟩, hts _ hi, hts _ hse⟩ ⟨ma_P.blind, va_recv SP.2.1 (HP.get hb rfl).1 hcl (q0 := 0) rfl, hP⟩ rfl (by simp) L.1 ?_ ?_ hd ⟨hc, hs2⟩
  · simp [ma_rv]
  · rw [ma_wd_ok]
    show 2 * 0 + ma_wd st ≤ 8
    omega
theorem ma_callI {idx d' mc ms b : Nat} {M' : ma_M} (av : List ma_V) (hd : decode M.2.1 pc = .ok (.invokespecial idx, 3)) (hw : ma_MW M' av.length) (hl : Cond.methodLink M.1.cls idx M'.1 ∈ ma_gt) (hi : Cond.instanceMethod M'.1 ∈ ma_gt) (hr : M'.2.2.2 = none) (hnm : M'.1.name = "<init>") (hd' : d' + 1 ≤ d) (hwd : ma_wd st ≤ 8) (hC : ma_Ct M' d' mc ms (vr b :: av) h nx (fun r h' nx' => ma_J scr M d kc ks (pc + 3) lv (r.toList ++ st) h' nx' Q)) : ma_J scr M d (kc + mc) (ks + ms) pc lv (av.reverse ++ vr b :: st) h nx Q := by
  refine ma_back hC (fun p l e R s m args below meth c D cT A ad base H locs cells slots ls CX SP HP L hf hL hc hs2 hM hP => ?_)
  have hts := CX.2.2.2.2.2.2.1
  have hg := ma_gt_good M' hw.1
  rw [hr] at hM hg
  refine va_runI (As := av.map (ma_rv ad)) (b := ad b) ⟨CX.1, CX.2.1, CX.2.2.2.1, CX.2.2.2.2.1, hts⟩ hM ⟨callB_of av.length hts hg rfl rfl rfl (hts _ hw.2.1) (hts _ hl) (ma_nm_ok hw.2.2.1) ⟨by show d' + 1 ≤ R.frames; omega, by show 8 + (M'.2.2.1 + 11) + 42 * d' ≤ R.locals; have := hw.2.2.2; omega⟩, hnm, hts _ hi⟩ ⟨ma_P.blind, hP⟩ rfl (by simp) L.1 ?_ ?_ hd ⟨hc, hs2⟩
  · simp [ma_rv]
  · rw [ma_wd_ok]
    show 2 * 0 + ma_wd st ≤ 8
    omega
theorem ma_callIN {idx d' mc ms b : Nat} {host : String} {M' : ma_M} (av : List ma_V) (hd : decode M.2.1 pc = .ok (.invokespecial idx, 3)) (hw : ma_MW M' av.length) (hl : Cond.methodLinkNest M.1.cls idx M'.1 host ∈ lw_tbl) (hi : Cond.instanceMethod M'.1 ∈ ma_gt) (hr : M'.2.2.2 = none) (hnm : M'.1.name = "<init>") (hd' : d' + 1 ≤ d) (hwd : ma_wd st ≤ 8) (hC : ma_Ct M' d' mc ms (vr b :: av) h nx (fun r h' nx' => ma_J scr M d kc ks (pc + 3) lv (r.toList ++ st) h' nx' Q)) : ma_J scr M d (kc + mc) (ks + ms) pc lv (av.reverse ++ vr b :: st) h nx Q := by
  refine ma_back hC (fun p l e R s m args below meth c D cT A ad base H locs cells slots ls CX SP HP L hf hL hc hs2 hM hP => ?_)
  have hts := CX.2.2.2.2.2.2.1
  have hg := ma_gt_good M' hw.1
  rw [hr] at hM hg
  refine va_runIN (As := av.map (ma_rv ad)) (b := ad b) ⟨CX.1, CX.2.1, CX.2.2.2.1, CX.2.2.2.2.1, hts⟩ hM ⟨va_cnB av.length hts hg rfl rfl rfl (SP.2.2.2.1 _ hl rfl) (hts _ hw.2.1) (ma_nm_ok hw.2.2.1) ⟨by show d' + 1 ≤ R.frames; omega, by show 8 + (M'.2.2.1 + 11) + 42 * d' ≤ R.locals; have := hw.2.2.2; omega⟩, hnm, hts _ hi⟩ ⟨ma_P.blind, hP⟩ rfl (by simp) L.1 ?_ ?_ hd ⟨hc, hs2⟩
  · simp [ma_rv]
  · rw [ma_wd_ok]
    show 2 * 0 + ma_wd st ≤ 8
    omega
end MAX
