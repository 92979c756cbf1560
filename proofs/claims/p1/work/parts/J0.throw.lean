section MXR
variable {M : ma_M} {d kc ks pc : Nat} {lv lv' : List (Option ma_V)} {st st' : List ma_V} {h : ma_H} {nx pc' : Nat}
/-- from pc the method comes to pc', the world as it is -/
def ma_R (M : ma_M) (d kc ks pc : Nat) (lv : List (Option ma_V)) (st : List ma_V) (h : ma_H) (nx pc' : Nat) (lv' : List (Option ma_V)) (st' : List ma_V) : Prop :=
  ∀ (p : Program) (l : Launch) (e : Env) (R : Room) (s : State) (m : MethodId) (args : Array Value) (below : List Frame) (meth : Method) (c : Code) (D : va_G) (cT : Nat → ClassId) (A : Nat → Prop) (ad : Nat → Nat) (base : Nat) (H : Heap) (locs : List Loc) (cells slots : Nat) (ls : Array Slot) (Z : State → Prop), ma_CX M p l s m args meth c → (∀ q, s.heap.size ≤ q → A q) → ma_SP D cT ad base A s none → ma_HP D cT ad base nx h A H → va_S A s.heap H locs → ma_L ad ls M.2.2.1 lv → d ≤ R.frames → 42 * d ≤ R.locals → cells + kc ≤ R.cells → slots + ks ≤ R.slots →
    (∀ (H' : Heap) (locs' : List Loc) (ls' : Array Slot), ma_HP D cT ad base nx h A H' → va_S A s.heap H' locs' → ma_L ad ls' M.2.2.1 lv' → W p l e R s m args below meth c H' locs' cells slots Z (F0 m pc' ls' (st'.map (ma_rv ad)))) →
    W p l e R s m args below meth c H locs cells slots Z (F0 m pc ls (st.map (ma_rv ad)))
theorem mr_rf : ma_R M d kc ks pc lv st h nx pc lv st := by
  intro p l e R s m args below meth c D cT A ad base H locs cells slots ls Z CX hA SP HP hS hl hf hL hc hs END
  exact END H locs ls HP hS hl
theorem mr_go {pc2 : Nat} {st2 : List ma_V} (f : ∀ (p : Program) (l : Launch) (e : Env) (R : Room) (s : State) (m : MethodId) (args : Array Value) (below : List Frame) (meth : Method) (c : Code) (ad : Nat → Nat) (H : Heap) (locs : List Loc) (cells slots : Nat) (ls : Array Slot) (Z : State → Prop), ma_CX M p l s m args meth c → W p l e R s m args below meth c H locs cells slots Z (F0 m pc2 ls (st2.map (ma_rv ad))) → W p l e R s m args below meth c H locs cells slots Z (F0 m pc ls (st.map (ma_rv ad)))) (K : ma_R M d kc ks pc2 lv st2 h nx pc' lv' st') : ma_R M d kc ks pc lv st h nx pc' lv' st' := by
  intro p l e R s m args below meth c D cT A ad base H locs cells slots ls Z CX hA SP HP hS hl hf hL hc hs END
  exact f p l e R s m args below meth c ad H locs cells slots ls Z CX (K p l e R s m args below meth c D cT A ad base H locs cells slots ls Z CX hA SP HP hS hl hf hL hc hs END)
theorem mr_goL {pc2 : Nat} {st2 : List ma_V} (f : ∀ (p : Program) (l : Launch) (e : Env) (R : Room) (s : State) (m : MethodId) (args : Array Value) (below : List Frame) (meth : Method) (c : Code) (ad : Nat → Nat) (H : Heap) (locs : List Loc) (cells slots : Nat) (ls : Array Slot) (Z : State → Prop), ma_CX M p l s m args meth c → ma_L ad ls M.2.2.1 lv → W p l e R s m args below meth c H locs cells slots Z (F0 m pc2 ls (st2.map (ma_rv ad))) → W p l e R s m args below meth c H locs cells slots Z (F0 m pc ls (st.map (ma_rv ad)))) (K : ma_R M d kc ks pc2 lv st2 h nx pc' lv' st') : ma_R M d kc ks pc lv st h nx pc' lv' st' := by
  intro p l e R s m args below meth c D cT A ad base H locs cells slots ls Z CX hA SP HP hS hl hf hL hc hs END
  exact f p l e R s m args below meth c ad H locs cells slots ls Z CX hl (K p l e R s m args below meth c D cT A ad base H locs cells slots ls Z CX hA SP HP hS hl hf hL hc hs END)
theorem mr_goH {pc2 : Nat} {st2 : List ma_V} (f : ∀ (p : Program) (l : Launch) (e : Env) (R : Room) (s : State) (m : MethodId) (args : Array Value) (below : List Frame) (meth : Method) (c : Code) (D : va_G) (cT : Nat → ClassId) (A : Nat → Prop) (ad : Nat → Nat) (base : Nat) (H : Heap) (locs : List Loc) (cells slots : Nat) (ls : Array Slot) (Z : State → Prop), ma_CX M p l s m args meth c → ma_SP D cT ad base A s none → ma_HP D cT ad base nx h A H → va_S A s.heap H locs → W p l e R s m args below meth c H locs cells slots Z (F0 m pc2 ls (st2.map (ma_rv ad))) → W p l e R s m args below meth c H locs cells slots Z (F0 m pc ls (st.map (ma_rv ad)))) (K : ma_R M d kc ks pc2 lv st2 h nx pc' lv' st') : ma_R M d kc ks pc lv st h nx pc' lv' st' := by
  intro p l e R s m args below meth c D cT A ad base H locs cells slots ls Z CX hA SP HP hS hl hf hL hc hs END
  exact f p l e R s m args below meth c D cT A ad base H locs cells slots ls Z CX SP HP hS (K p l e R s m args below meth c D cT A ad base H locs cells slots ls Z CX hA SP HP hS hl hf hL hc hs END)
theorem mr_two {c1 c2 : Prop} {pc1 pc2 : Nat} {st2 : List ma_V} (f : ∀ (p : Program) (l : Launch) (e : Env) (R : Room) (s : State) (m : MethodId) (args : Array Value) (below : List Frame) (meth : Method) (c : Code) (ad : Nat → Nat) (H : Heap) (locs : List Loc) (cells slots : Nat) (ls : Array Slot) (Z : State → Prop), ma_CX M p l s m args meth c → (c1 → W p l e R s m args below meth c H locs cells slots Z (F0 m pc1 ls (st2.map (ma_rv ad)))) → (c2 → W p l e R s m args below meth c H locs cells slots Z (F0 m pc2 ls (st2.map (ma_rv ad)))) → W p l e R s m args below meth c H locs cells slots Z (F0 m pc ls (st.map (ma_rv ad)))) (K1 : c1 → ma_R M d kc ks pc1 lv st2 h nx pc' lv' st') (K2 : c2 → ma_R M d kc ks pc2 lv st2 h nx pc' lv' st') : ma_R M d kc ks pc lv st h nx pc' lv' st' := by
  intro p l e R s m args below meth c D cT A ad base H locs cells slots ls Z CX hA SP HP hS hl hf hL hc hs END
  exact f p l e R s m args below meth c ad H locs cells slots ls Z CX (fun q => K1 q p l e R s m args below meth c D cT A ad base H locs cells slots ls Z CX hA SP HP hS hl hf hL hc hs END) (fun q => K2 q p l e R s m args below meth c D cT A ad base H locs cells slots ls Z CX hA SP HP hS hl hf hL hc hs END)
theorem mr_iconst {n : Int} (hd : decode M.2.1 pc = .ok (.iconst n, 1)) (K : ma_R M d kc ks (pc + 1) lv (vi n :: st) h nx pc' lv' st') : ma_R M d kc ks pc lv st h nx pc' lv' st' := mr_go (fun _ _ _ _ _ _ _ _ _ _ _ _ _ _ _ _ _ CX k => lv_iconst CX.1 CX.2.1 hd rfl k) K
theorem mr_iload_n {k : Fin 4} {x : Int} (hd : decode M.2.1 pc = .ok (.iload_n k, 1)) (hl : lv[(k : Nat)]? = some (some (vi x))) (K : ma_R M d kc ks (pc + 1) lv (vi x :: st) h nx pc' lv' st') : ma_R M d kc ks pc lv st h nx pc' lv' st' := mr_goL (fun _ _ _ _ _ _ _ _ _ _ _ _ _ _ _ _ _ CX L k => lv_iload_n CX.1 CX.2.1 hd rfl (L.2.2 _ _ hl) k) K
theorem mr_aload_n {k : Fin 4} {x : Nat} (hd : decode M.2.1 pc = .ok (.aload_n k, 1)) (hl : lv[(k : Nat)]? = some (some (vr x))) (K : ma_R M d kc ks (pc + 1) lv (vr x :: st) h nx pc' lv' st') : ma_R M d kc ks pc lv st h nx pc' lv' st' := mr_goL (fun _ _ _ _ _ _ _ _ _ _ _ _ _ _ _ _ _ CX L k => lv_aload_n CX.1 CX.2.1 hd rfl (L.2.2 _ _ hl) k) K
theorem mr_aload {i x : Nat} (hd : decode M.2.1 pc = .ok (.aload i, 2)) (hl : lv[i]? = some (some (vr x))) (K : ma_R M d kc ks (pc + 2) lv (vr x :: st) h nx pc' lv' st') : ma_R M d kc ks pc lv st h nx pc' lv' st' := mr_goL (fun _ _ _ _ _ _ _ _ _ _ _ _ _ _ _ _ _ CX L k => lv_aload CX.1 CX.2.1 hd (L.2.2 _ _ hl) k) K
theorem mr_getf {idx a ci k : Nat} {fin isr : Bool} {fs : List ma_V} {v : ma_V} (hd : decode M.2.1 pc = .ok (.getfield idx, 3)) (hl : ma_FL M.1.cls idx ci k fin isr) (ha : h a = co ci fs) (hv : fs[k]? = some v) (K : ma_R M d kc ks (pc + 3) lv (v :: st) h nx pc' lv' st') : ma_R M d kc ks pc lv (vr a :: st) h nx pc' lv' st' := by
  obtain ⟨C, T, N, ty, ⟨c1, c2, c3, c4⟩, hk, hw, -, -, -⟩ := hl
  refine mr_goH (fun p l e R s m args below meth c D cT A ad base H locs cells slots ls Z CX SP HP hS kk => ?_) K
  exact va_get CX.1 CX.2.1 CX.2.2.2.2.2.2.1 c2 CX.2.2.2.2.1 SP.2.1 (HP.get ha rfl).1 0 rfl c1 k hk (CX.2.2.2.2.2.2.1 _ hw) (fun _ q => q) (by rw [List.getElem?_map, hv]; rfl) hd kk
theorem mr_if_eq {x off : Int} (tgt : Nat) (hd : decode M.2.1 pc = .ok (.ifCond .eq off, 3)) (ht : (pc : Int) + off = (tgt : Int)) (hx : -2147483648 ≤ x ∧ x ≤ 2147483647) (K1 : x = 0 → ma_R M d kc ks tgt lv st h nx pc' lv' st') (K2 : x ≠ 0 → ma_R M d kc ks (pc + 3) lv st h nx pc' lv' st') : ma_R M d kc ks pc lv (vi x :: st) h nx pc' lv' st' :=
  mr_two (c1 := x = 0) (c2 := x ≠ 0) (fun _ _ _ _ _ _ _ _ _ _ _ _ _ _ _ _ _ CX k1 k2 => lv_if_eq CX.1 CX.2.1 hd ht (fun q => k1 (by have z := (@iw_eq x 0).mp q; rw [iw_0, iw_of hx.1 hx.2] at z; exact z)) (fun q => k2 (fun z => q (by rw [z]; rfl)))) K1 K2
theorem mr_if_lt {x off : Int} (tgt : Nat) (hd : decode M.2.1 pc = .ok (.ifCond .lt off, 3)) (ht : (pc : Int) + off = (tgt : Int)) (hx : -2147483648 ≤ x ∧ x ≤ 2147483647) (K1 : x < 0 → ma_R M d kc ks tgt lv st h nx pc' lv' st') (K2 : 0 ≤ x → ma_R M d kc ks (pc + 3) lv st h nx pc' lv' st') : ma_R M d kc ks pc lv (vi x :: st) h nx pc' lv' st' :=
  mr_two (c1 := x < 0) (c2 := 0 ≤ x) (fun _ _ _ _ _ _ _ _ _ _ _ _ _ _ _ _ _ CX k1 k2 => lv_if_lt CX.1 CX.2.1 hd ht (fun q => k1 (by have z := (@iw_lt x 0).mp q; rw [iw_0, iw_of hx.1 hx.2] at z; exact z)) (fun q => k2 (Int.not_lt.mp (fun z => q ((@iw_lt x 0).mpr (by rw [iw_0, iw_of hx.1 hx.2]; exact z)))))) K1 K2
theorem mr_icmp_le {x y off : Int} (tgt : Nat) (hd : decode M.2.1 pc = .ok (.if_icmp .le off, 3)) (ht : (pc : Int) + off = (tgt : Int)) (hx : -2147483648 ≤ x ∧ x ≤ 2147483647) (hy : -2147483648 ≤ y ∧ y ≤ 2147483647) (K1 : x ≤ y → ma_R M d kc ks tgt lv st h nx pc' lv' st') (K2 : y < x → ma_R M d kc ks (pc + 3) lv st h nx pc' lv' st') : ma_R M d kc ks pc lv (vi y :: vi x :: st) h nx pc' lv' st' :=
  mr_two (c1 := x ≤ y) (c2 := y < x) (fun _ _ _ _ _ _ _ _ _ _ _ _ _ _ _ _ _ CX k1 k2 => lv_icmp_le CX.1 CX.2.1 hd ht (fun q => k1 (by have z := iw_le.mp q; rw [iw_of hx.1 hx.2, iw_of hy.1 hy.2] at z; exact z)) (fun q => k2 (Int.not_le.mp (fun z => q (iw_le.mpr (by rw [iw_of hx.1 hx.2, iw_of hy.1 hy.2]; exact z)))))) K1 K2
theorem mr_icmp_lt {x y off : Int} (tgt : Nat) (hd : decode M.2.1 pc = .ok (.if_icmp .lt off, 3)) (ht : (pc : Int) + off = (tgt : Int)) (hx : -2147483648 ≤ x ∧ x ≤ 2147483647) (hy : -2147483648 ≤ y ∧ y ≤ 2147483647) (K1 : x < y → ma_R M d kc ks tgt lv st h nx pc' lv' st') (K2 : y ≤ x → ma_R M d kc ks (pc + 3) lv st h nx pc' lv' st') : ma_R M d kc ks pc lv (vi y :: vi x :: st) h nx pc' lv' st' :=
  mr_two (c1 := x < y) (c2 := y ≤ x) (fun _ _ _ _ _ _ _ _ _ _ _ _ _ _ _ _ _ CX k1 k2 => lv_icmp_lt CX.1 CX.2.1 hd ht (fun q => k1 (by have z := iw_lt.mp q; rw [iw_of hx.1 hx.2, iw_of hy.1 hy.2] at z; exact z)) (fun q => k2 (Int.not_lt.mp (fun z => q (iw_lt.mpr (by rw [iw_of hx.1 hx.2, iw_of hy.1 hy.2]; exact z)))))) K1 K2
theorem mr_mono {d2 : Nat} (hd : d ≤ d2) (K : ma_R M d kc ks pc lv st h nx pc' lv' st') : ma_R M d2 kc ks pc lv st h nx pc' lv' st' := by
  intro p l e R s m args below meth c D cT A ad base H locs cells slots ls Z CX hA SP HP hS hl hf hL hc hs END
  exact K p l e R s m args below meth c D cT A ad base H locs cells slots ls Z CX hA SP HP hS hl (by omega) (by omega) hc hs END
/-- a call that leaves the world as it is -/
theorem mr_cV {idx b ci N : Nat} {M' : ma_M} {T : u_T} {fs : List ma_V} (av : List ma_V) (hd : decode M.2.1 pc = .ok (.invokevirtual idx, 3)) (hw : ma_MW M' av.length) (hl9 : Cond.methodLink M.1.cls idx M'.1 ∈ ma_gt) (hi : Cond.instanceMethod M'.1 ∈ ma_gt) (hse : Cond.selects M'.1.cls M'.1 M'.1 ∈ ma_gt) (hcl : vwCl[ci]? = some (M'.1.cls, T, N)) (hb : h b = co ci fs) (hwd : ma_wd st ≤ 8)
    (hC : ma_Ct M' d 0 0 (vr b :: av) h nx (fun r h2 nx2 => h2 = h ∧ nx2 = nx ∧ ma_R M (d + 1) kc ks (pc + 3) lv (r.toList ++ st) h nx pc' lv' st')) : ma_R M (d + 1) kc ks pc lv (av.reverse ++ vr b :: st) h nx pc' lv' st' := by
  intro p l e R s m args below meth c D cT A ad base H locs cells slots ls Z CX hA SP HP hS hl hf hL hc hs END
  have hfl := CX.2.2.2.2.2.2.2.2
  have hts := CX.2.2.2.2.2.2.1
  have hAA : ∀ q, ma_A ad h H.size q → A q := by
    intro q hq
    rcases hq with ⟨k, h1, rfl⟩ | hq
    · exact (HP.2 k h1).2.2.1
    · exact hA q (Nat.le_trans hS.1 hq)
  have HP1 : ma_HP D cT ad base nx h (ma_A ad h H.size) H := ⟨HP.1, fun k hk => ⟨(HP.2 k hk).1, (HP.2 k hk).2.1, Or.inl ⟨k, hk, rfl⟩, (HP.2 k hk).2.2.2⟩⟩
  have hM := hC l hfl D cT ad base H.size
  have hP : ∀ U : State, U.heap = H → s.WarmedH U.vm → ma_P D cT ad base H.size (vr b :: av) h nx ((vr b :: av).map (ma_rv ad)).toArray U := fun U hU hW => ⟨rfl, by rw [hU], SP.to hW hS hU hAA, by rw [hU]; exact HP1⟩
  have hrun := va_runV (g := F0 m pc ls ((av.reverse ++ vr b :: st).map (ma_rv ad))) (rest := st.map (ma_rv ad)) (locs := locs) (below := below) (meth := meth) (e := e) (cells := cells) (slots := slots) (R := R) (As := av.map (ma_rv ad)) (b := ad b) (C := M'.1.cls) ⟨CX.1, CX.2.1, CX.2.2.2.1, CX.2.2.2.2.1, hts⟩ hM ⟨callB_of av.length hts (ma_gt_good M' hw.1) rfl rfl rfl (hts _ hw.2.1) (hts _ hl9) (ma_nm_ok hw.2.2.1) ⟨by show d + 1 ≤ R.frames; omega, by show 8 + (M'.2.2.1 + 11) + 42 * d ≤ R.locals; have := hw.2.2.2; omega⟩, hts _ hi, hts _ hse⟩ ⟨ma_P.blind, va_recv SP.2.1 (HP.get hb rfl).1 hcl (q0 := 0) rfl, hP⟩ rfl (by simp) hl.1 (by simp [ma_rv]) (by rw [ma_wd_ok]; show 2 * 0 + ma_wd st ≤ 8; omega) hd ⟨by omega, by omega⟩
  intro T0 hT X
  obtain ⟨v, st₀, t, T', L, h0, X', hLf, e1, e2, ⟨r, h2, nx2, hv, ⟨eh, en, hJ⟩, HP', hz, hk⟩, go⟩ := hrun T0 hT X
  subst eh
  subst en
  have hvr : v = r.map (ma_rv ad) := by
    have := hv
    simpa using this
  subst hvr
  rw [h0] at hz hk
  have HP2 : ma_HP D cT ad base nx2 h2 A T'.heap := by
    rw [e1]
    exact ⟨HP'.1, fun k hk => ⟨(HP'.2 k hk).1, (HP'.2 k hk).2.1, hAA _ (HP'.2 k hk).2.2.1, (HP'.2 k hk).2.2.2⟩⟩
  have hS2 : va_S A s.heap T'.heap (locs ++ L) := by
    refine ⟨Nat.le_trans hS.1 (by rw [e1]; exact hz), fun q h1 h2 => ?_, fun q hq => ?_⟩
    · rw [e1, hk q (Nat.lt_of_lt_of_le h1 hS.1) (fun z => h2 (hAA q z))]
      exact hS.2.1 q h1 h2
    · rcases List.mem_append.mp hq with g | g
      · exact hS.2.2 q g
      · exact hAA _ (hLf q g)
  have KW := hJ p l e R s m args below meth c D cT A ad base T'.heap (locs ++ L) cells slots ls Z CX hA SP HP2 hS2 hl hf hL hc hs END
  obtain ⟨t2, a1, b1⟩ := KW T' rfl X'
  refine ⟨t2, go t2 ?_, b1⟩
  have e3 : (r.map (ma_rv ad)).toList ++ st.map (ma_rv ad) = (r.toList ++ st).map (ma_rv ad) := by cases r <;> simp
  rw [e3]
  exact a1
end MXR
abbrev nse : String := "java/util/NoSuchElementException"
abbrev nse_n : List String := ["java/lang/RuntimeException", "java/lang/Exception"]
theorem nse_good : (vx_at0 RX11 133 nse nse_n).filter (fun w => !goodWord w) = [Cond.declares (Bundle.init0 "java/lang/RuntimeException"), Cond.declares (Bundle.init0 "java/lang/Exception"), Cond.declares (Bundle.init0 Bundle.tN), Cond.castable nse nse] := by decide +kernel
theorem nse_decl {x : MethodName} {bytes : ByteArray} {mL : Nat} {ret : Option FieldType} {args : Array Value} {s : State} (h1 : (Cond.instanceMethod x).before args s = true) (h2 : (Cond.code x bytes mL ret).before args s = true) : (Cond.declares x).before args s = true := by
  obtain ⟨m, meth, hn, hm, hs, -⟩ := Cond.instanceMethod_spec h1
  obtain ⟨meth2, c, hm2, -, -, -, -, -, -, hsig⟩ := Cond.code_spec hn h2
  cases Option.some.inj (hm.symm.trans hm2)
  simp only [Cond.before, Cond.holds, Cond.value, hn, Option.bind_some, hm, Option.map_some, hs, hsig]
  simp
theorem nse_cast {own : String} {ik : Nat} {cid : ClassId} {args : Array Value} {s : State} (ho : s.vm.findClass own = some cid) (h : (Cond.classLink own ik nse).before args s = true) : (Cond.castable nse nse).before args s = true := by
  obtain ⟨c', hc', -⟩ := Cond.classLink_spec ho h ({} : Platform) rfl
  simp only [Cond.before, Cond.holds, Cond.value, hc', Vm.assignable_self]
  rfl
theorem nse_in : ∀ w ∈ (vx_at0 RX11 133 nse nse_n).filter goodWord, w ∈ lw_tbl := by decide +kernel
theorem nse_ot : (Cond.classLink RX11 131 nse :: Cond.initialized nse :: vx_at0 RX11 133 nse nse_n).all vx_ot = true := by decide +kernel
theorem nse_fit : Bundle.fit nse = true ∧ nse_n.all Bundle.fit = true := by decide +kernel
theorem fl_tr {l : Launch} (h : l.flags = flags0) : l.stackTraces = false := by
  unfold Launch.stackTraces
  rw [h]
  decide +kernel
theorem nse_at {args : Array Value} {s : State} (hca : (Cond.castable nse nse).before args s = true) (hts : ∀ w ∈ ma_gt, w.before args s = true) : ∀ w ∈ vx_at0 RX11 133 nse nse_n, w.before args s = true := fun w hw => by
  cases hb : goodWord w with
  | true => exact hts w (List.mem_filter.mpr ⟨nse_in w (List.mem_filter.mpr ⟨hw, hb⟩), hb⟩)
  | false =>
    have q : w ∈ (vx_at0 RX11 133 nse nse_n).filter (fun w => !goodWord w) := List.mem_filter.mpr ⟨hw, by rw [hb]; rfl⟩
    rw [nse_good] at q
    have g : ∀ w', w' ∈ vx_at0 RX11 133 nse nse_n → goodWord w' = true → w'.before args s = true := fun w' h1 h2 => hts w' (List.mem_filter.mpr ⟨nse_in w' (List.mem_filter.mpr ⟨h1, h2⟩), h2⟩)
    simp only [List.mem_cons, List.not_mem_nil, or_false] at q
    rcases q with q | q | q | q
    · rw [q]; exact nse_decl (bytes := Bundle.five) (mL := 1) (ret := none) (g _ (by decide +kernel) rfl) (g _ (by decide +kernel) rfl)
    · rw [q]; exact nse_decl (bytes := Bundle.five) (mL := 1) (ret := none) (g _ (by decide +kernel) rfl) (g _ (by decide +kernel) rfl)
    · rw [q]; exact nse_decl (bytes := LibCode.Throwable.Init0.code) (mL := 1) (ret := none) (g _ (by decide +kernel) rfl) (g _ (by decide +kernel) rfl)
    · rw [q]; exact hca
def ma_XC (D : va_G) (cT : Nat → ClassId) (ad : Nat → Nat) (base nx : Nat) (h : ma_H) (A : Nat → Prop) : String → State → State → Prop := fun E st t => E = nse ∧ ma_HP D cT ad base nx h A t.heap ∧ va_F A st t
/-- the method throws, the world as it is -/
def ma_Cx (M : ma_M) (d : Nat) (av : List ma_V) (h : ma_H) (nx : Nat) : Prop :=
  ∀ (l : Launch), l.flags = flags0 → ∀ (D : va_G) (cT : Nat → ClassId) (ad : Nat → Nat) (base sz : Nat), vx_Met l M.1 (Cond.code M.1 M.2.1 M.2.2.1 M.2.2.2 :: ma_gt) { frames := d, cells := 1, slots := 6, locals := 42 * d } (ma_P D cT ad base sz av h nx) (fun _ _ _ _ => False) (ma_XC D cT ad base nx h (ma_A ad h sz)) 1 6 (ma_A ad h sz)
theorem ma_Cx.of {M : ma_M} {d pc' : Nat} {av : List ma_V} {h : ma_H} {lv' : List (Option ma_V)} (hy : plainName M.1.cls = true) (hn : (ma_en av).length ≤ M.2.2.1) (hd : 6 ≤ d) (ho : M.1.cls = RX11) (w1 : Cond.classLink RX11 131 nse ∈ ma_gt) (w2 : Cond.initialized nse ∈ ma_gt)
    (K : ma_R M d 1 6 0 (ma_ent M.2.2.1 av) [] h 1000000 pc' lv' []) (d0 : decode M.2.1 pc' = .ok (.new 131, 3)) (d3 : decode M.2.1 (pc' + 3) = .ok (.dup, 1)) (d4 : decode M.2.1 (pc' + 4) = .ok (.invokespecial 133, 3)) (d7 : decode M.2.1 (pc' + 7) = .ok (.athrow, 1)) : ma_Cx M d av h 1000000 := by
  intro l hfl D cT ad base sz
  refine vx_ofW hy rfl ?_
  intro p e s m args below meth c s₁ B hml ht hv
  obtain ⟨rfl, rfl, SP, HP⟩ := hv
  have hts := atoms_spec (ws := Cond.code M.1 M.2.1 M.2.2.1 M.2.2.2 :: ma_gt) B.pre
  have hts' : ∀ w ∈ ma_gt, w.before (av.map (ma_rv ad)).toArray s = true := fun w hw => hts w (List.mem_cons_of_mem _ hw)
  rw [lg_entry_eq]
  have hlocks := B.notSynchronized
  have hown := findClass_of_methodNamed B.named
  refine K p l e _ s m _ below meth c D cT (ma_A ad h s.heap.size) ad base s.heap [] 0 0 _ _ ⟨B.exec, B.bytes, B.returns, hml, hown, hlocks, hts', fun q => (name_of_methodNamed B.named B.method).1.trans q, hfl⟩ (fun q hq => Or.inr hq) SP HP va_S.rf (ma_ent_L ad hn) (Nat.le_refl _) (Nat.le_refl _) (Nat.le_refl _) (Nat.le_refl _) ?_
  intro H' locs' ls' HP' hS' hl'
  rw [ho] at hown
  refine vx_throw0 B.exec B.bytes (fl_tr hfl) (own := RX11) (cls := nse) (names := nse_n) (ik := 131) (ic := 133) (A := ma_A ad h s.heap.size) hown nse_fit.1 (fun n hn => List.all_eq_true.mp nse_fit.2 n hn) (hts' _ w1) (hts' _ w2) (nse_at (nse_cast hown (hts' _ w1)) hts') (fun w hw => List.all_eq_true.mp nse_ot w hw) SP.2.2.2.2.2.1 SP.2.2.2.2.2.2.1 hS' (hl'.1.trans hml.symm) d0 d3 d4 d7 (fun x hx => (ht x hx).elim) ?_ ?_ (Nat.le_refl _) (Nat.le_refl _) hlocks ?_ hS'.2.2 (Nat.le_refl _) (Nat.le_refl _)
  · show 2 + 3 < d
    omega
  · show 0 + (13 * (2 + 1) + 42) ≤ 42 * d
    omega
  · intro t hal hz hq
    refine ⟨rfl, ⟨fun q => absurd q (by decide), fun k hk => ⟨(HP'.2 k hk).1, (HP'.2 k hk).2.1, (HP'.2 k hk).2.2.1, (HP'.2 k hk).2.2.2.kept (hq _ (HP'.2 k hk).2.2.2.lt)⟩⟩, Nat.le_trans hS'.1 hz, fun q h1 h2 => ?_⟩
    rw [hq q (Nat.lt_of_lt_of_le h1 hS'.1)]
    exact hS'.2.1 q h1 h2
