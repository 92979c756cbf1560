section VXC
variable {p : Program} {l : Launch} {e : Env} {R : Room} {s : State} {m : MethodId} {args : Array Value} {below : List Frame} {meth : Method} {c : Code} {H : Heap} {locs : List Loc} {cells slots : Nat} {Q : State → Prop}
variable {pc : Nat} {ls : Array Slot} {rest : List Value}
theorem vx_catch {own name : String} {E : String} {ce : Cell} {q : Addr} (hown : s.vm.findClass own = some m.cls) (pre : List ExceptionTableEntry) (x : ExceptionTableEntry) (suf : List ExceptionTableEntry) (hsplit : c.exceptionTable.toList = pre ++ x :: suf)
    (hpass : ∀ z ∈ pre, covers z pc = false ∨ (z.catchType ≠ 0 ∧ ∃ nm : String, (Cond.classLink own z.catchType nm).before args s = true ∧ va_Nc E nm s)) (hx : covers x pc = true) (h0 : x.catchType ≠ 0)
    (hlink : (Cond.classLink own x.catchType name).before args s = true) (hcast : (Cond.castable E name).before args s = true) (hcell : H[q]? = some ce) (hv : ce.vm = .none) (hcl : s.vm.findClass E = some ce.cls)
    (kk : W p l e R s m args below meth c H locs cells slots Q (F0 m x.handlerPc ls [.ref q])) : vx_W p l e R s m args below meth c H locs cells slots Q (F0 m pc ls rest) q := by
  intro T hT X
  have hpl : e.platform.magicAccessors = ({} : Platform).magicAccessors := by rw [X.admits.platform]
  obtain ⟨c3, c4, hc3, hc4, hasg⟩ := Cond.castable_spec hcast
  cases Option.some.inj (hc3.symm.trans hcl)
  obtain ⟨c5, hc5, hcl5⟩ := Cond.classLink_spec hown hlink e.platform hpl
  cases Option.some.inj (hc4.symm.trans hc5)
  obtain ⟨vm', X', st⟩ := Jvm.Stand.thenCaughtThrough X q (g := F0 m pc ls rest) rfl (Steps.refl _) (by rw [hT]; exact hcell) (by rw [hv]; rfl) (by obtain ⟨k9, h9, -⟩ := Vm.findClass_spec hcl; exact ⟨k9, h9⟩) pre x suf hsplit
    (fun z hz => by
      rcases hpass z hz with h | ⟨hz0, nm, hl1, hn1⟩
      · exact Or.inl h
      · obtain ⟨c6, hc6, hcl6⟩ := Cond.classLink_spec hown hl1 e.platform hpl
        obtain ⟨a8, b8, h1, h2, h3⟩ := hn1
        cases Option.some.inj (h1.symm.trans hcl)
        cases Option.some.inj (h2.symm.trans hc6)
        exact Or.inr ⟨hz0, _, hcl6, h3⟩) hx (Or.inr ⟨h0, c4, hcl5, hasg⟩)
  obtain ⟨t, a1, b1⟩ := kk (T.setVm vm') hT X'
  exact ⟨t, st.trans a1, b1⟩
end VXC
section MXT
variable {M : ma_M} {d kc ks pc : Nat} {lv lv' : List (Option ma_V)} {st st' : List ma_V} {h : ma_H} {nx pc' : Nat} {Q : Option ma_V → ma_H → Nat → Prop} {TB : List ExceptionTableEntry}
/-- the light judgement of a method with a table -/
def ma_JT (M : ma_M) (TB : List ExceptionTableEntry) (d kc ks pc : Nat) (lv : List (Option ma_V)) (st : List ma_V) (h : ma_H) (nx : Nat) (Q : Option ma_V → ma_H → Nat → Prop) : Prop :=
  ∀ (p : Program) (l : Launch) (e : Env) (R : Room) (s : State) (m : MethodId) (args : Array Value) (below : List Frame) (meth : Method) (c : Code) (D : va_G) (cT : Nat → ClassId) (A : Nat → Prop) (ad : Nat → Nat) (base : Nat) (H : Heap) (locs : List Loc) (cells slots : Nat) (ls : Array Slot) (Z : State → Prop), c.exceptionTable.toList = TB → ma_CX M p l s m args meth c → (∀ q, s.heap.size ≤ q → A q) → ma_SP D cT ad base A s none → ma_HP D cT ad base nx h A H → va_S A s.heap H locs → ma_L ad ls M.2.2.1 lv → d ≤ R.frames → 42 * d ≤ R.locals → cells + kc ≤ R.cells → slots + ks ≤ R.slots →
    (∀ (r : Option ma_V) (h' : ma_H) (nx' : Nat) (H' : Heap) (locs' : List Loc) (cells' slots' pc' : Nat) (ls' : Array Slot), Q r h' nx' → ma_HP D cT ad base nx' h' A H' → va_S A s.heap H' locs' → cells' ≤ R.cells → slots' ≤ R.slots → ma_rt M pc' r → W p l e R s m args below meth c H' locs' cells' slots' Z (F0 m pc' ls' (r.toList.map (ma_rv ad)))) → W p l e R s m args below meth c H locs cells slots Z (F0 m pc ls (st.map (ma_rv ad)))
theorem ma_JT.of (K : ma_J none M d kc ks pc lv st h nx Q) : ma_JT M TB d kc ks pc lv st h nx Q := by
  intro p l e R s m args below meth c D cT A ad base H locs cells slots ls Z hTB CX hA SP HP hS hl hf hL hc hs FIN
  exact K p l e R s m args below meth c D cT A ad base H locs cells slots ls Z CX hA SP HP hS hl hf hL hc hs FIN
theorem ma_JT.reach (hR : ma_R M d kc ks pc lv st h nx pc' lv' st') (K : ma_JT M TB d kc ks pc' lv' st' h nx Q) : ma_JT M TB d kc ks pc lv st h nx Q := by
  intro p l e R s m args below meth c D cT A ad base H locs cells slots ls Z hTB CX hA SP HP hS hl hf hL hc hs FIN
  exact hR p l e R s m args below meth c D cT A ad base H locs cells slots ls Z CX hA SP HP hS hl hf hL hc hs (fun H' locs' ls' HP' hS' hl' => K p l e R s m args below meth c D cT A ad base H' locs' cells slots ls' Z hTB CX hA SP HP' hS' hl' hf hL hc hs FIN)
/-- a call that throws, caught by the table's one row -/
theorem ma_try {idx d' b ci N hp : Nat} {M' : ma_M} {T : u_T} {fs : List ma_V} {x : ExceptionTableEntry} (av : List ma_V) (hd : decode M.2.1 pc = .ok (.invokevirtual idx, 3)) (hw : ma_MW M' av.length) (hl9 : Cond.methodLink M.1.cls idx M'.1 ∈ ma_gt) (hi : Cond.instanceMethod M'.1 ∈ ma_gt) (hse : Cond.selects M'.1.cls M'.1 M'.1 ∈ ma_gt) (hcl : vwCl[ci]? = some (M'.1.cls, T, N)) (hb : h b = co ci fs) (hd' : d' + 1 ≤ d) (hwd : ma_wd st ≤ 8)
    (hC : ma_Cx M' d' (vr b :: av) h nx) (hx : covers x pc = true) (h0 : x.catchType ≠ 0) (hlk : Cond.classLink M.1.cls x.catchType nse ∈ ma_gt)
    (store : ∀ (p : Program) (l : Launch) (e : Env) (R : Room) (s : State) (m : MethodId) (args : Array Value) (below : List Frame) (meth : Method) (c : Code) (H : Heap) (locs : List Loc) (cells slots : Nat) (ls : Array Slot) (Z : State → Prop) (q : Addr), ma_CX M p l s m args meth c → ls.size = M.2.2.1 → lv_wf ls → (∀ ls' : Array Slot, ls'.size = M.2.2.1 → lv_wf ls' → W p l e R s m args below meth c H locs cells slots Z (F0 m hp ls' [])) → W p l e R s m args below meth c H locs cells slots Z (F0 m x.handlerPc ls [.ref q]))
    (K : ma_J none M d kc ks hp [] [] h nx Q) : ma_JT M [x] d (kc + 1) (ks + 6) pc lv (av.reverse ++ vr b :: st) h nx Q := by
  intro p l e R s m args below meth c D cT A ad base H locs cells slots ls Z hTB CX hA SP HP hS hl hf hL hc hs FIN
  have hfl := CX.2.2.2.2.2.2.2.2
  have hts := CX.2.2.2.2.2.2.1
  have hAA : ∀ q, ma_A ad h H.size q → A q := by
    intro q hq
    rcases hq with ⟨k, h1, rfl⟩ | hq
    · exact (HP.2 k h1).2.2.1
    · exact hA q (Nat.le_trans hS.1 hq)
  have HP1 : ma_HP D cT ad base nx h (ma_A ad h H.size) H := ⟨HP.1, fun k hk => ⟨(HP.2 k hk).1, (HP.2 k hk).2.1, Or.inl ⟨k, hk, rfl⟩, (HP.2 k hk).2.2.2⟩⟩
  have hM := hC l hfl D cT ad base H.size
  have hP : ∀ U : State, U.heap = H → s.WarmedH U.vm → ma_P D cT ad base H.size (vr b :: av) h nx ((vr b :: av).map (ma_rv ad)).toArray U := fun U hU hW => ⟨rfl, by rw [hU], SP.to hW hS hU hAA, by rw [hU]; exact HP1⟩
  have hrun := vx_runV (g := F0 m pc ls ((av.reverse ++ vr b :: st).map (ma_rv ad))) (rest := st.map (ma_rv ad)) (locs := locs) (below := below) (meth := meth) (e := e) (cells := cells) (slots := slots) (R := R) (As := av.map (ma_rv ad)) (b := ad b) (C := M'.1.cls) ⟨CX.1, CX.2.1, CX.2.2.2.1, CX.2.2.2.2.1, hts⟩ hM ⟨callB_of av.length hts (ma_gt_good M' hw.1) rfl rfl rfl (hts _ hw.2.1) (hts _ hl9) (ma_nm_ok hw.2.2.1) ⟨by show d' + 1 ≤ R.frames; omega, by show 8 + (M'.2.2.1 + 11) + 42 * d' ≤ R.locals; have := hw.2.2.2; omega⟩, hts _ hi, hts _ hse⟩ ⟨ma_P.blind, va_recv SP.2.1 (HP.get hb rfl).1 hcl (q0 := 0) rfl, hP⟩ rfl (by simp) hl.1 (by simp [ma_rv]) (by rw [ma_wd_ok]; show 2 * 0 + ma_wd st ≤ 8; omega) hd ⟨by omega, by omega⟩
  intro T0 hT X
  rcases hrun T0 hT X with ⟨v, st₀, t, T', L, h0', X', hLf, e1, e2, hq, go⟩ | ⟨q, st₀, t, T', L, E, ce, h0', X', hLf, e1, e2, ⟨eE, HP', hz, hk⟩, hce, hcv, hcls, go⟩
  · exact hq.elim
  · subst eE
    rw [h0'] at hz hk
    have HP2 : ma_HP D cT ad base nx h A T'.heap := by
      rw [e1]
      exact ⟨HP'.1, fun k hk => ⟨(HP'.2 k hk).1, (HP'.2 k hk).2.1, hAA _ (HP'.2 k hk).2.2.1, (HP'.2 k hk).2.2.2⟩⟩
    have hS2 : va_S A s.heap T'.heap (locs ++ L) := by
      refine ⟨Nat.le_trans hS.1 (by rw [e1]; exact hz), fun q h1 h2 => ?_, fun q hq => ?_⟩
      · rw [e1, hk q (Nat.lt_of_lt_of_le h1 hS.1) (fun z => h2 (hAA q z))]
        exact hS.2.1 q h1 h2
      · rcases List.mem_append.mp hq with g | g
        · exact hS.2.2 q g
        · exact hAA _ (hLf q g)
    have kW : W p l e R s m args below meth c T'.heap (locs ++ L) (cells + 1) (slots + 6) Z (F0 m x.handlerPc ls [.ref q]) :=
      store p l e R s m args below meth c T'.heap (locs ++ L) (cells + 1) (slots + 6) ls Z q CX hl.1 hl.2.1 (fun ls' z1 z2 => K p l e R s m args below meth c D cT A ad base T'.heap (locs ++ L) (cells + 1) (slots + 6) ls' Z CX hA SP HP2 hS2 ⟨z1, z2, fun i v z => by simp at z⟩ hf hL (by omega) (by omega) FIN)
    have cW := vx_catch (E := nse) (name := nse) (ce := ce) (q := q) (ls := ls) (pc := pc) (rest := st.map (ma_rv ad)) CX.2.2.2.2.1 [] x [] hTB (fun z hz => by cases hz) hx h0 (hts _ hlk) (nse_cast CX.2.2.2.2.1 (hts _ hlk)) (by rw [e1]; exact hce) hcv hcls kW
    obtain ⟨t2, a1, b1⟩ := cW T' rfl X'
    exact ⟨t2, go.trans a1, b1⟩
/-- the contract of a method with a table -/
def ma_CtW (M : ma_M) (hh : List (Nat × Nat × Nat × Nat)) (d mc ms : Nat) (av : List ma_V) (h : ma_H) (nx : Nat) (Q : Option ma_V → ma_H → Nat → Prop) : Prop :=
  ∀ (l : Launch), l.flags = flags0 → ∀ (D : va_G) (cT : Nat → ClassId) (ad : Nat → Nat) (base sz : Nat), Met l M.1 (Cond.codeWith M.1 M.2.1 M.2.2.1 M.2.2.2 hh :: ma_gt) { frames := d, cells := mc, slots := ms, locals := 42 * d } (ma_P D cT ad base sz av h nx) (ma_Q D cT ad base (ma_A ad h sz) Q) mc ms (ma_A ad h sz)
theorem ma_CtW.of {hh : List (Nat × Nat × Nat × Nat)} {mc ms : Nat} {av : List ma_V} (hy : plainName M.1.cls = true) (hn : (ma_en av).length ≤ M.2.2.1) (K : ma_JT M (tableOf hh) d mc ms 0 (ma_ent M.2.2.1 av) [] h nx Q) : ma_CtW M hh d mc ms av h nx Q := by
  intro l hfl D cT ad base sz
  have hV : vx_Met l M.1 (Cond.codeWith M.1 M.2.1 M.2.2.1 M.2.2.2 hh :: ma_gt) { frames := d, cells := mc, slots := ms, locals := 42 * d } (ma_P D cT ad base sz av h nx) (ma_Q D cT ad base (ma_A ad h sz) Q) (fun _ _ _ => False) mc ms (ma_A ad h sz) := by
    refine vx_ofWH hy rfl ?_
    intro p e s m args below meth c s₁ B hml hv
    obtain ⟨rfl, rfl, SP, HP⟩ := hv
    have hts := atoms_spec (ws := Cond.codeWith M.1 M.2.1 M.2.2.1 M.2.2.2 hh :: ma_gt) B.pre
    have hTB := vx_table (x := M.1) B (hts _ List.mem_cons_self)
    rw [lg_entry_eq]
    have hlocks := B.notSynchronized
    refine K p l e _ s m _ below meth c D cT (ma_A ad h s.heap.size) ad base s.heap [] 0 0 _ _ hTB ⟨B.exec, B.bytes, B.returns, hml, findClass_of_methodNamed B.named, hlocks, fun w hw => hts w (List.mem_cons_of_mem _ hw), fun q => (name_of_methodNamed B.named B.method).1.trans q, hfl⟩ (fun q hq => Or.inr hq) SP HP va_S.rf (ma_ent_L ad hn) (Nat.le_refl _) (Nat.le_refl _) (by show 0 + mc ≤ mc; omega) (by show 0 + ms ≤ ms; omega) ?_
    intro r h' nx' H' locs' cells' slots' pc' ls' hQ HP' hS' hc hs hr
    refine vx_ret ?_
    refine W.widen (k := mc) (n := ms) hc hs ?_
    have hq : ∀ t : State, t.heap = H' → s.WarmedH t.vm → ma_Q D cT ad base (ma_A ad h s.heap.size) Q (av.map (ma_rv ad)).toArray s (.returned (r.map (ma_rv ad))) t := fun t ht _ => ⟨r, h', nx', rfl, hQ, by rw [ht]; exact HP', hS'.F ht⟩
    rcases hr with ⟨hd, hr, rfl⟩ | ⟨x, hd, hr | ⟨hr, hx⟩, rfl⟩ | ⟨x, hd, hr, rfl⟩
    · exact W.vret B.exec B.bytes (B.returns.trans hr) hq hS'.2.2 hd
    · exact W.iret B.exec B.bytes (B.returns.trans hr) hq hS'.2.2 hd
    · refine W.zret B.exec B.bytes (B.returns.trans hr) ?_ hq hS'.2.2 hd
      rcases hx with rfl | rfl <;> decide +kernel
    · exact W.lret B.exec B.bytes (B.returns.trans hr) hq hS'.2.2 hd
  exact MetFree.mono hV (fun _ _ z => z) (fun _ _ _ _ _ z => z) (fun a s o t _ z => by
    rcases z with z | ⟨q, -, E, ce, L, hx, -⟩
    · exact z
    · exact hx.elim)
theorem ma_callSW {scr : Option (Nat × (Int → Int))} {idx d' mc ms : Nat} {M' : ma_M} {hh : List (Nat × Nat × Nat × Nat)} (av : List ma_V) (hd : decode M.2.1 pc = .ok (.invokestatic idx, 3)) (hcw : Cond.codeWith M'.1 M'.2.1 M'.2.2.1 M'.2.2.2 hh ∈ ma_gt) (hin : Cond.initialized M'.1.cls ∈ ma_gt) (hnm : ma_nm M'.1 av.length = true) (hml : M'.2.2.1 ≤ 23) (hl9 : Cond.methodLink M.1.cls idx M'.1 ∈ ma_gt) (hs9 : Cond.static M'.1 ∈ ma_gt) (hd' : d' + 1 ≤ d) (hwd : ma_wd st ≤ 8)
    (hC : ma_CtW M' hh d' mc ms av h nx (fun r h' nx' => ma_J scr M d kc ks (pc + 3) lv (r.toList ++ st) h' nx' Q)) : ma_J scr M d (kc + mc) (ks + ms) pc lv (av.reverse ++ st) h nx Q := by
  intro p l e R s m args below meth c D cT A ad base H locs cells slots ls Z CX hA SP HP hS hl hf hL hc hs FIN
  have hfl := CX.2.2.2.2.2.2.2.2
  have hts := CX.2.2.2.2.2.2.1
  have hAA : ∀ q, ma_A ad h H.size q → A q := by
    intro q hq
    rcases hq with ⟨k, h1, rfl⟩ | hq
    · exact (HP.2 k h1).2.2.1
    · exact hA q (Nat.le_trans hS.1 hq)
  have HP1 : ma_HP D cT ad base nx h (ma_A ad h H.size) H := ⟨HP.1, fun k hk => ⟨(HP.2 k hk).1, (HP.2 k hk).2.1, Or.inl ⟨k, hk, rfl⟩, (HP.2 k hk).2.2.2⟩⟩
  have hM := hC l hfl D cT ad base H.size
  have hP : ∀ U : State, U.heap = H → s.WarmedH U.vm → ma_P D cT ad base H.size av h nx (av.map (ma_rv ad)).toArray U := fun U hU hW => ⟨rfl, by rw [hU], SP.to hW hS hU hAA, by rw [hU]; exact HP1⟩
  have hG : GoodIn ma_gt (va_wsS M.1.cls idx M'.1 (Cond.codeWith M'.1 M'.2.1 M'.2.2.1 M'.2.2.2 hh :: ma_gt)) := by
    intro w hw
    have hm : w ∈ ma_gt := by
      unfold va_wsS at hw
      rcases List.mem_append.mp hw with g | g
      · simp only [List.mem_cons, List.not_mem_nil, or_false] at g
        rcases g with rfl | rfl | rfl
        · exact hl9
        · exact hs9
        · exact hin
      · rcases List.mem_cons.mp g with g | g
        · rw [g]; exact hcw
        · exact g
    exact ⟨hm, good_of_word (List.mem_filter.mp hm).2⟩
  have hrun := vx_runSW (g := F0 m pc ls ((av.reverse ++ st).map (ma_rv ad))) (rest := st.map (ma_rv ad)) (locs := locs) (below := below) (meth := meth) (e := e) (cells := cells) (slots := slots) (R := R) (As := av.map (ma_rv ad)) ⟨CX.1, CX.2.1, CX.2.2.2.1, CX.2.2.2.2.1, hts⟩ hM (vx_cwSW av.length hts hG rfl rfl rfl (ma_nm_ok hnm) ⟨by show d' + 1 ≤ R.frames; omega, by show 8 + (M'.2.2.1 + 11) + 42 * d' ≤ R.locals; omega⟩) ⟨ma_P.blind, hP⟩ rfl (by simp) hl.1 (ma_rev ad av st) (by rw [ma_wd_ok]; show 2 * 0 + ma_wd st ≤ 8; omega) hd ⟨by omega, by omega⟩
  intro T hT X
  obtain ⟨v, st₀, t, T', L, h0, X', hLf, e1, e2, ⟨r, h', nx', hv, hJ, HP', hz, hk⟩, go⟩ := hrun T hT X
  have hvr : v = r.map (ma_rv ad) := by
    have := hv
    simpa using this
  subst hvr
  rw [h0] at hz hk
  have HP2 : ma_HP D cT ad base nx' h' A T'.heap := by
    rw [e1]
    exact ⟨HP'.1, fun k hk => ⟨(HP'.2 k hk).1, (HP'.2 k hk).2.1, hAA _ (HP'.2 k hk).2.2.1, (HP'.2 k hk).2.2.2⟩⟩
  have hS2 : va_S A s.heap T'.heap (locs ++ L) := by
    refine ⟨Nat.le_trans hS.1 (by rw [e1]; exact hz), fun q h1 h2 => ?_, fun q hq => ?_⟩
    · rw [e1, hk q (Nat.lt_of_lt_of_le h1 hS.1) (fun z => h2 (hAA q z))]
      exact hS.2.1 q h1 h2
    · rcases List.mem_append.mp hq with g | g
      · exact hS.2.2 q g
      · exact hAA _ (hLf q g)
  have KW := hJ p l e R s m args below meth c D cT A ad base T'.heap (locs ++ L) (cells + mc) (slots + ms) ls Z CX hA SP HP2 hS2 hl hf hL (by omega) (by omega) FIN
  obtain ⟨t2, a1, b1⟩ := KW T' rfl X'
  refine ⟨t2, go t2 ?_, b1⟩
  have e3 : (r.map (ma_rv ad)).toList ++ st.map (ma_rv ad) = (r.toList ++ st).map (ma_rv ad) := by cases r <;> simp
  rw [e3]
  exact a1
end MXT
