def R_law : String := "GluedSolidsLaw"
def lw_P (b : Addr) (xs : List Int32) (args : Array Value) (s : State) : Prop := args = #[.ref b] ∧ s.IntsAt b xs ∧ xs.length ≤ 5 ∧ (Jvm.Cond.and given_1 narrow_1).before args s = true
def lw_Q (_ : Array Value) (s : State) (o : Outcome) (t : State) : Prop := o = .returned (some (.int 1)) ∧ Framed s o t [] 600002 7302232
def lw_Z (below : List Frame) (a : Array Value) (s : State) : State → Prop := fun t => ∃ o, t.status = .running ∧ Ended t below o ∧ lw_Q a s o t
/-- the law's own end, with 1 on the stack, nothing written that was there before, its room as the claim has it -/
theorem lw_ret {p : Program} {l : Launch} {e : Env} {s : State} {m : MethodId} {below : List Frame} {meth : Method} {c : Code} {b : Nat} (hx : p.tables.exec = Jvm.exec) (hb : c.code = code) (hr : meth.sig.returnType = ret) (hlocks : meth.locks = false) {pc : Nat} {H : Heap} {ls : Array Slot} (hdg : decode code pc = .ok (.ireturn, 1)) : W p l e room_1 s m #[Value.ref b] below meth c H [] 600002 7302232 (lw_Z below #[Value.ref b] s) (F0 m pc ls [.int 1]) := by
  intro T hT X
  obtain ⟨fs, hret, hrun, hended, hW, hframe⟩ := X.leave (v := some (.int 1)) (hlocks := hlocks) (fun h => by rw [hr] at h; cases h)
  have hmeth' : T.vm.method? m = some meth := X.method'
  refine ⟨T.setFrames fs, ?_, .returned (some (.int 1)), hrun, hended, rfl, ⟨_, rfl⟩, hW, hframe⟩
  jvm_step X.here [X.here.top, hx, hb, hdg, hmeth', hr, ret, narrow_b1]
  (try refine ⟨rfl, ?_⟩); (try refine ⟨rfl, ?_⟩)
  first | (intro acts; rw [hret _ acts rfl rfl rfl]) | rw [hret _ _ rfl rfl rfl]
  exact Steps.refl _
/-- what holds at the law's entry: the machine, the code, the tables' words (any of lw_tbl by 'hts w (by decide +kernel)'), the script of L ints xs at the cell b, what the Statement gives of the start (any of its parts by flat_of_before) -/
def lw_At (p : Program) (s : State) (m : MethodId) (meth : Method) (c : Code) (b L : Nat) (xs : Nat → Int32) : Prop :=
  p.tables.exec = Jvm.exec ∧ c.code = code ∧ meth.sig.returnType = ret ∧ c.maxLocals = 8 ∧ s.vm.findClass R_law = some m.cls ∧ (∀ w ∈ lw_tbl, w.before #[Value.ref b] s = true) ∧ va_X b L xs s s.heap ∧ b < s.heap.size ∧ meth.locks = false ∧ (Jvm.Cond.and given_1 narrow_1).before #[Value.ref b] s = true
abbrev mLaw : ma_M := (x, code, 8, some .boolean)
def en_L : List Cond := flatC (Jvm.Cond.and given_1 narrow_1)
def en_A (s : State) : Nat → Prop := fun q => s.heap.size ≤ q
theorem en_nA {s : State} : ∀ a : Nat, a < s.heap.size → ¬ en_A s a := fun a h q => absurd q (Nat.not_le.mpr h)
theorem en_arr {args : Array Value} {s : State} {ty : FieldType} (h : (Cond.arrayClass ty).before args s = true) : ∃ cA, ArrOfT s cA ty ∧ s.vm.findClass ("[" ++ ty.toString) = some cA := by
  obtain ⟨cA, k, comp, h1, h2, h3⟩ := Cond.arrayClass_spec h
  exact ⟨cA, fun n z => ⟨fun k h => (by cases h), k, h2, comp, h3⟩, h1⟩
theorem en_arrO {args : Array Value} {s : State} {C : String} (h : (Cond.arrayOver (.object C)).before args s = true) : ∃ cA, ArrOfT s cA (.object C) ∧ va_RA s cA (.object C) := by
  obtain ⟨comp, c, k, h1, h2, h3, h4, h5⟩ := Cond.arrayOver_spec h
  exact ⟨c, fun n z => ⟨fun k h => (by cases h), k, h3, comp, h4⟩, k, comp, h3, h4, h1, h5⟩
set_option maxRecDepth 100000 in
theorem en_e0 : (List.range 96).map (fun i => Cond.eq (.elem (.static "GluedSolids" "IMAGE" "[I") (.int (Int32.ofNat i))) (.int (Int32.ofInt (ma_tf 0 i)))) = (en_L.drop 7).take 96 := by decide +kernel
set_option maxRecDepth 100000 in
theorem en_s0 {args : Array Value} {s : State} (hs : ∀ c ∈ en_L, c.before args s = true) (ht : ∀ w ∈ tables_1, w.before args s = true) : ∃ t : Nat, va_Z (ma_rc 0) (ma_rn 0) "[I" (.ref t) (en_A s) s s.heap ∧ va_T .int t (ma_tb 0).length (fun i => .int (Int32.ofInt (ma_tf 0 i))) (en_A s) s s.heap := by
  have h1 : (Cond.arrayOf (.static "GluedSolids" "IMAGE" "[I") .int).before args s = true := hs _ (List.mem_of_getElem? (i := 5) (by decide +kernel))
  have h2 : (Cond.eq (.length (.static "GluedSolids" "IMAGE" "[I")) (.int 96)).before args s = true := hs _ (List.mem_of_getElem? (i := 6) (by decide +kernel))
  obtain ⟨t, e1, e2⟩ := va_Tof (A := en_A s) (N := 96) (f := fun i => .int (Int32.ofInt (ma_tf 0 i))) (by decide) h1 (va_eqt h2) (fun i hi => va_eqt (hs _ (va_run en_e0 i hi))) en_nA
  exact ⟨t, va_Zof (ht (.laysStatic "GluedSolids" "IMAGE" "[I") (List.mem_of_getElem? (i := 405) (by decide +kernel))) (ht (.initialized "GluedSolids") (List.mem_of_getElem? (i := 1) (by decide +kernel))) e1 en_nA, e2⟩
set_option maxRecDepth 100000 in
theorem en_e1 : (List.range 24).map (fun i => Cond.eq (.elem (.static "GluedSolids" "INVERSE" "[I") (.int (Int32.ofNat i))) (.int (Int32.ofInt (ma_tf 1 i)))) = (en_L.drop 106).take 24 := by decide +kernel
set_option maxRecDepth 100000 in
theorem en_s1 {args : Array Value} {s : State} (hs : ∀ c ∈ en_L, c.before args s = true) (ht : ∀ w ∈ tables_1, w.before args s = true) : ∃ t : Nat, va_Z (ma_rc 1) (ma_rn 1) "[I" (.ref t) (en_A s) s s.heap ∧ va_T .int t (ma_tb 1).length (fun i => .int (Int32.ofInt (ma_tf 1 i))) (en_A s) s s.heap := by
  have h1 : (Cond.arrayOf (.static "GluedSolids" "INVERSE" "[I") .int).before args s = true := hs _ (List.mem_of_getElem? (i := 104) (by decide +kernel))
  have h2 : (Cond.eq (.length (.static "GluedSolids" "INVERSE" "[I")) (.int 24)).before args s = true := hs _ (List.mem_of_getElem? (i := 105) (by decide +kernel))
  obtain ⟨t, e1, e2⟩ := va_Tof (A := en_A s) (N := 24) (f := fun i => .int (Int32.ofInt (ma_tf 1 i))) (by decide) h1 (va_eqt h2) (fun i hi => va_eqt (hs _ (va_run en_e1 i hi))) en_nA
  exact ⟨t, va_Zof (ht (.laysStatic "GluedSolids" "INVERSE" "[I") (List.mem_of_getElem? (i := 412) (by decide +kernel))) (ht (.initialized "GluedSolids") (List.mem_of_getElem? (i := 1) (by decide +kernel))) e1 en_nA, e2⟩
set_option maxRecDepth 100000 in
theorem en_e2 : (List.range 24).map (fun i => Cond.eq (.elem (.static "GluedSolids" "ODD" "[I") (.int (Int32.ofNat i))) (.int (Int32.ofInt (ma_tf 2 i)))) = (en_L.drop 712).take 24 := by decide +kernel
set_option maxRecDepth 100000 in
theorem en_s2 {args : Array Value} {s : State} (hs : ∀ c ∈ en_L, c.before args s = true) (ht : ∀ w ∈ tables_1, w.before args s = true) : ∃ t : Nat, va_Z (ma_rc 2) (ma_rn 2) "[I" (.ref t) (en_A s) s s.heap ∧ va_T .int t (ma_tb 2).length (fun i => .int (Int32.ofInt (ma_tf 2 i))) (en_A s) s s.heap := by
  have h1 : (Cond.arrayOf (.static "GluedSolids" "ODD" "[I") .int).before args s = true := hs _ (List.mem_of_getElem? (i := 710) (by decide +kernel))
  have h2 : (Cond.eq (.length (.static "GluedSolids" "ODD" "[I")) (.int 24)).before args s = true := hs _ (List.mem_of_getElem? (i := 711) (by decide +kernel))
  obtain ⟨t, e1, e2⟩ := va_Tof (A := en_A s) (N := 24) (f := fun i => .int (Int32.ofInt (ma_tf 2 i))) (by decide) h1 (va_eqt h2) (fun i hi => va_eqt (hs _ (va_run en_e2 i hi))) en_nA
  exact ⟨t, va_Zof (ht (.laysStatic "GluedSolids" "ODD" "[I") (List.mem_of_getElem? (i := 603) (by decide +kernel))) (ht (.initialized "GluedSolids") (List.mem_of_getElem? (i := 1) (by decide +kernel))) e1 en_nA, e2⟩
set_option maxRecDepth 100000 in
theorem en_e3 : (List.range 16).map (fun i => Cond.eq (.elem (.static "GluedSolids" "SWAP" "[I") (.int (Int32.ofNat i))) (.int (Int32.ofInt (ma_tf 3 i)))) = (en_L.drop 739).take 16 := by decide +kernel
set_option maxRecDepth 100000 in
theorem en_s3 {args : Array Value} {s : State} (hs : ∀ c ∈ en_L, c.before args s = true) (ht : ∀ w ∈ tables_1, w.before args s = true) : ∃ t : Nat, va_Z (ma_rc 3) (ma_rn 3) "[I" (.ref t) (en_A s) s s.heap ∧ va_T .int t (ma_tb 3).length (fun i => .int (Int32.ofInt (ma_tf 3 i))) (en_A s) s s.heap := by
  have h1 : (Cond.arrayOf (.static "GluedSolids" "SWAP" "[I") .int).before args s = true := hs _ (List.mem_of_getElem? (i := 737) (by decide +kernel))
  have h2 : (Cond.eq (.length (.static "GluedSolids" "SWAP" "[I")) (.int 16)).before args s = true := hs _ (List.mem_of_getElem? (i := 738) (by decide +kernel))
  obtain ⟨t, e1, e2⟩ := va_Tof (A := en_A s) (N := 16) (f := fun i => .int (Int32.ofInt (ma_tf 3 i))) (by decide) h1 (va_eqt h2) (fun i hi => va_eqt (hs _ (va_run en_e3 i hi))) en_nA
  exact ⟨t, va_Zof (ht (.laysStatic "GluedSolids" "SWAP" "[I") (List.mem_of_getElem? (i := 755) (by decide +kernel))) (ht (.initialized "GluedSolids") (List.mem_of_getElem? (i := 1) (by decide +kernel))) e1 en_nA, e2⟩
set_option maxRecDepth 100000 in
theorem en_e4 : (List.range 576).map (fun i => Cond.eq (.elem (.static "GluedSolids" "AFTER" "[I") (.int (Int32.ofNat i))) (.int (Int32.ofInt (ma_tf 4 i)))) = (en_L.drop 133).take 576 := by decide +kernel
set_option maxRecDepth 100000 in
theorem en_s4 {args : Array Value} {s : State} (hs : ∀ c ∈ en_L, c.before args s = true) (ht : ∀ w ∈ tables_1, w.before args s = true) : ∃ t : Nat, va_Z (ma_rc 4) (ma_rn 4) "[I" (.ref t) (en_A s) s s.heap ∧ va_T .int t (ma_tb 4).length (fun i => .int (Int32.ofInt (ma_tf 4 i))) (en_A s) s s.heap := by
  have h1 : (Cond.arrayOf (.static "GluedSolids" "AFTER" "[I") .int).before args s = true := hs _ (List.mem_of_getElem? (i := 131) (by decide +kernel))
  have h2 : (Cond.eq (.length (.static "GluedSolids" "AFTER" "[I")) (.int 576)).before args s = true := hs _ (List.mem_of_getElem? (i := 132) (by decide +kernel))
  obtain ⟨t, e1, e2⟩ := va_Tof (A := en_A s) (N := 576) (f := fun i => .int (Int32.ofInt (ma_tf 4 i))) (by decide) h1 (va_eqt h2) (fun i hi => va_eqt (hs _ (va_run en_e4 i hi))) en_nA
  exact ⟨t, va_Zof (ht (.laysStatic "GluedSolids" "AFTER" "[I") (List.mem_of_getElem? (i := 444) (by decide +kernel))) (ht (.initialized "GluedSolids") (List.mem_of_getElem? (i := 1) (by decide +kernel))) e1 en_nA, e2⟩
set_option maxRecDepth 100000 in
theorem en_e5 : (List.range 96).map (fun i => Cond.eq (.elem (.static "GluedSolidsModel" "P" "[I") (.int (Int32.ofNat i))) (.int (Int32.ofInt (ma_tf 5 i)))) = (en_L.drop 760).take 96 := by decide +kernel
set_option maxRecDepth 100000 in
theorem en_s5 {args : Array Value} {s : State} (hs : ∀ c ∈ en_L, c.before args s = true) (ht : ∀ w ∈ tables_1, w.before args s = true) : ∃ t : Nat, va_Z (ma_rc 5) (ma_rn 5) "[I" (.ref t) (en_A s) s s.heap ∧ va_T .int t (ma_tb 5).length (fun i => .int (Int32.ofInt (ma_tf 5 i))) (en_A s) s s.heap := by
  have h1 : (Cond.arrayOf (.static "GluedSolidsModel" "P" "[I") .int).before args s = true := hs _ (List.mem_of_getElem? (i := 758) (by decide +kernel))
  have h2 : (Cond.eq (.length (.static "GluedSolidsModel" "P" "[I")) (.int 96)).before args s = true := hs _ (List.mem_of_getElem? (i := 759) (by decide +kernel))
  obtain ⟨t, e1, e2⟩ := va_Tof (A := en_A s) (N := 96) (f := fun i => .int (Int32.ofInt (ma_tf 5 i))) (by decide) h1 (va_eqt h2) (fun i hi => va_eqt (hs _ (va_run en_e5 i hi))) en_nA
  exact ⟨t, va_Zof (ht (.laysStatic "GluedSolidsModel" "P" "[I") (List.mem_of_getElem? (i := 1051) (by decide +kernel))) (ht (.initialized "GluedSolidsModel") (List.mem_of_getElem? (i := 14) (by decide +kernel))) e1 en_nA, e2⟩
theorem en_U {args : Array Value} {s : State} (hs : ∀ c ∈ en_L, c.before args s = true) (ht : ∀ w ∈ tables_1, w.before args s = true) : vx_Zq Bundle.tN "UNASSIGNED_STACK" Bundle.steD (en_A s) s s.heap :=
  vx_Zqof (ht (.laysStatic "java/lang/Throwable" "UNASSIGNED_STACK" "[Ljava/lang/StackTraceElement;") (List.mem_of_getElem? (i := 999) (by decide +kernel))) (ht (.initialized "java/lang/Throwable") (List.mem_of_getElem? (i := 17) (by decide +kernel))) (hs _ (List.mem_of_getElem? (i := 755) (by decide +kernel))) en_nA
theorem en_N {args : Array Value} {s : State} (hs : ∀ c ∈ en_L, c.before args s = true) (ht : ∀ w ∈ tables_1, w.before args s = true) : vx_Zq Bundle.tN "SUPPRESSED_SENTINEL" Bundle.listD (en_A s) s s.heap :=
  vx_Zqof (ht (.laysStatic "java/lang/Throwable" "SUPPRESSED_SENTINEL" "Ljava/util/List;") (List.mem_of_getElem? (i := 1001) (by decide +kernel))) (ht (.initialized "java/lang/Throwable") (List.mem_of_getElem? (i := 17) (by decide +kernel))) (hs _ (List.mem_of_getElem? (i := 756) (by decide +kernel))) en_nA
set_option maxHeartbeats 4000000 in
/-- THE ENTRY: the light judgement of the law's body gives the walk -/
theorem en_start {p : Program} {e : Env} {s : State} {m : MethodId} {below : List Frame} {meth : Method} {c : Code} (l : Launch) (hflags : l.flags = flags0) {b L : Nat} {xs : Nat → Int32} (C0 : lw_At p s m meth c b L xs)
    (hJ : ma_J (some (L, fun i => (xs i.toNat).toInt)) mLaw 11 600002 7302232 0 (ma_ent 8 [vr 2000000]) [] (fun _ => ma_vd) 0 (fun r _ _ => r = some (vi 1))) : W p l e room_1 s m #[Value.ref b] below meth c s.heap [] 0 0 (lw_Z below #[Value.ref b] s) (entryFrame m ([Value.ref b] : List Value).toArray 8) := by
  obtain ⟨hx, hb, hr, hml, hown, hts, hX, hbl, hlocks, hgv⟩ := C0
  have hs : ∀ c ∈ en_L, c.before #[Value.ref b] s = true := flat_of_before _ hgv
  have ht : ∀ w ∈ tables_1, w.before #[Value.ref b] s = true := fun w hw => hts w (List.mem_append_right _ hw)
  have hg : ∀ w ∈ ma_gt, w.before #[Value.ref b] s = true := fun w hw => hts w (List.mem_filter.mp hw).1
  obtain ⟨c0, iS0, hk0⟩ := u_known (C := RX0) (T := TX0) (N := 4) (n := 4) hg kX0.2.1 (hg _ pX0)
  obtain ⟨c1, iS1, hk1⟩ := u_known (C := RX1) (T := TX1) (N := 5) (n := 5) hg kX1.2.1 (hg _ pX1)
  obtain ⟨c2, iS2, hk2⟩ := u_known (C := RX2) (T := TX2) (N := 4) (n := 4) hg kX2.2.1 (hg _ pX2)
  obtain ⟨c3, iS3, hk3⟩ := u_known (C := RX3) (T := TX3) (N := 3) (n := 3) hg kX3.2.1 (hg _ pX3)
  obtain ⟨c4, iS4, hk4⟩ := u_known (C := RX4) (T := TX4) (N := 3) (n := 3) hg kX4.2.1 (hg _ pX4)
  obtain ⟨c5, iS5, hk5⟩ := u_known (C := RX5) (T := TX5) (N := 4) (n := 4) hg kX5.2.1 (hg _ pX5)
  obtain ⟨c6, iS6, hk6⟩ := u_known (C := RX6) (T := TX6) (N := 6) (n := 6) hg kX6.2.1 (hg _ pX6)
  obtain ⟨c7, iS7, hk7⟩ := u_known (C := RX7) (T := TX7) (N := 11) (n := 11) hg kX7.2.1 (hg _ pX7)
  obtain ⟨c8, iS8, hk8⟩ := u_known (C := RX8) (T := TX8) (N := 2) (n := 2) hg kX8.2.1 (hg _ pX8)
  obtain ⟨c9, iS9, hk9⟩ := u_known (C := RX9) (T := TX9) (N := 2) (n := 2) hg kX9.2.1 (hg _ pX9)
  obtain ⟨c10, iS10, hk10⟩ := u_known (C := RX10) (T := TX10) (N := 6) (n := 6) hg kX10.2.1 (hg _ pX10)
  obtain ⟨c11, iS11, hk11⟩ := u_known (C := RX11) (T := TX11) (N := 15) (n := 15) hg kX11.2.1 (hg _ pX11)
  obtain ⟨c12, iS12, hk12⟩ := u_known (C := RX12) (T := TX12) (N := 60) (n := 60) hg kX12.2.1 (hg _ pX12)
  obtain ⟨dC, dI, hKc⟩ : ∃ (dC : Nat → ClassId) (dI : Nat → Nat → Nat), ∀ (k : Nat) (q : vw_C), vwCl[k]? = some q → u_Kn s q.1 q.2.1 q.2.2 (dC k) (dI k) := by
    refine ⟨fun k => [c0, c1, c2, c3, c4, c5, c6, c7, c8, c9, c10, c11, c12].getD k c0, fun k => [iS0, iS1, iS2, iS3, iS4, iS5, iS6, iS7, iS8, iS9, iS10, iS11, iS12].getD k iS0, ?_⟩
    intro k q hq
    match k, hq with
      | 0, hq => cases hq; exact hk0
      | 1, hq => cases hq; exact hk1
      | 2, hq => cases hq; exact hk2
      | 3, hq => cases hq; exact hk3
      | 4, hq => cases hq; exact hk4
      | 5, hq => cases hq; exact hk5
      | 6, hq => cases hq; exact hk6
      | 7, hq => cases hq; exact hk7
      | 8, hq => cases hq; exact hk8
      | 9, hq => cases hq; exact hk9
      | 10, hq => cases hq; exact hk10
      | 11, hq => cases hq; exact hk11
      | 12, hq => cases hq; exact hk12
      | k + 13, hq => simp [vwCl] at hq
  obtain ⟨a0, ha0, hb0⟩ := en_arr (ht (.arrayClass .int) (List.mem_of_getElem? (i := 61) (by decide +kernel)))
  obtain ⟨a1, ha1, hb1⟩ := en_arr (ht (.arrayClass .long) (List.mem_of_getElem? (i := 98) (by decide +kernel)))
  obtain ⟨a2, ha2, hb2⟩ := en_arr (ht (.arrayClass .byte) (List.mem_of_getElem? (i := 1233) (by decide +kernel)))
  obtain ⟨a3, ha3, hb3⟩ := en_arr (ht (.arrayClass .boolean) (List.mem_of_getElem? (i := 82) (by decide +kernel)))
  have hao := ht (.arrayOver (.object "GluedSolids$Solid")) (List.mem_of_getElem? (i := 62) (by decide +kernel))
  obtain ⟨a4, ha4, hb4⟩ := en_arrO hao
  obtain ⟨t0, z0⟩ := en_s0 hs ht
  obtain ⟨t1, z1⟩ := en_s1 hs ht
  obtain ⟨t2, z2⟩ := en_s2 hs ht
  obtain ⟨t3, z3⟩ := en_s3 hs ht
  obtain ⟨t4, z4⟩ := en_s4 hs ht
  obtain ⟨t5, z5⟩ := en_s5 hs ht
  have hK : va_K (dC, dI) vwCl (ma_ty (fun k => [a0, a1, a2, a3, a4].getD k a0)) s := by
    refine ⟨hKc, fun k q hq => ?_⟩
    match k, hq with
      | 0, hq => cases hq; exact ⟨ha0, hb0⟩
      | 1, hq => cases hq; exact ⟨ha1, hb1⟩
      | 2, hq => cases hq; exact ⟨ha2, hb2⟩
      | 3, hq => cases hq; exact ⟨ha3, hb3⟩
      | 4, hq => cases hq; exact ⟨ha4, hb4⟩
      | k + 5, hq => simp [ma_ty] at hq
  have SP : ma_SP (dC, dI) (fun k => [a0, a1, a2, a3, a4].getD k a0) (fun k => if k < 1000000 then s.heap.size + k else if k = 1000000 then t0 else if k = 1000001 then t1 else if k = 1000002 then t2 else if k = 1000003 then t3 else if k = 1000004 then t4 else if k = 1000005 then t5 else b) s.heap.size (en_A s) s (some (L, fun i => (xs i.toNat).toInt)) := by
    refine ⟨fun k hk => if_pos hk, hK, fun j hj => ?_, fun w h1 h2 => ?_, va_AO.of hao, en_U hs ht, en_N hs ht, fun L' xs' q => ?_⟩
    · match j, hj with
        | 0, _ => exact z0
        | 1, _ => exact z1
        | 2, _ => exact z2
        | 3, _ => exact z3
        | 4, _ => exact z4
        | 5, _ => exact z5
        | j + 6, h => omega
    · have h3 := hts w h1
      have h4 : w.onTables = true := by
        cases w <;> first | rfl | (exact absurd h2 (by simp [ma_isN]))
      exact va_Nw.of h4 h3
    · cases q
      obtain ⟨scr, h1, h2, h3, h4, h5⟩ := hX
      refine ⟨scr, h1, h2, h3, by omega, by rw [h4], fun j hj => ?_, fun q => absurd hbl (Nat.not_lt.mpr q)⟩
      rw [h5 j hj]
      show some (Value.int (xs j)) = some (Value.int (Int32.ofInt (xs (Int.toNat (j : Int))).toInt))
      rw [Int32.ofInt_toInt]
      rfl
  have hl := ma_ent_L (fun k => if k < 1000000 then s.heap.size + k else if k = 1000000 then t0 else if k = 1000001 then t1 else if k = 1000002 then t2 else if k = 1000003 then t3 else if k = 1000004 then t4 else if k = 1000005 then t5 else b) (n := 8) (av := [vr 2000000]) (Nat.le_of_ble_eq_true rfl)
  rw [lg_entry_eq]
  refine hJ p l e room_1 s m _ below meth c (dC, dI) _ (en_A s) (fun k => if k < 1000000 then s.heap.size + k else if k = 1000000 then t0 else if k = 1000001 then t1 else if k = 1000002 then t2 else if k = 1000003 then t3 else if k = 1000004 then t4 else if k = 1000005 then t5 else b) s.heap.size s.heap [] 0 0 _ _ ⟨hx, hb, hr, hml, hown, hlocks, hg, ?_, hflags⟩ (fun q hq => hq) SP ⟨fun _ => rfl, fun k hk => by cases hk⟩ va_S.rf hl (Nat.le_refl _) (Nat.le_refl _) (Nat.le_refl _) (Nat.le_refl _) ?_
  · intro q; exact absurd q (by decide)
  intro r h' nx' H' locs' cells' slots' pc' ls' hQ HP' hS' hc hs' hrt
  subst hQ
  refine va_forget (fun q hq => hS'.2.2 q hq) ?_
  refine W.widen (k := 600002) (n := 7302232) hc hs' ?_
  rcases hrt with ⟨-, -, q⟩ | ⟨y, hd, -, q⟩ | ⟨y, -, -, q⟩
  · cases q
  · have hy : y = 1 := by simpa using q.symm
    subst hy
    exact lw_ret hx hb hr hlocks hd
  · simp at q
