theorem iw_long (x : Int) : (Int32.ofInt x).toInt64 = Int64.ofInt (iw x) := by
  apply Int64.toInt_inj.mp
  rw [Int32.toInt_toInt64]
  have h := iw_in x
  show iw x = jw (iw x)
  exact (jw_of (by omega) (by omega)).symm
section MAR
variable {scr : Option (Nat × (Int → Int))} {M : ma_M} {d kc ks pc : Nat} {lv : List (Option ma_V)} {st : List ma_V} {h : ma_H} {nx : Nat} {Q : Option ma_V → ma_H → Nat → Prop}
/-- a step that changes neither locals nor world -/
theorem ma_go {pc2 : Nat} {st2 : List ma_V} (f : ∀ (p : Program) (l : Launch) (e : Env) (R : Room) (s : State) (m : MethodId) (args : Array Value) (below : List Frame) (meth : Method) (c : Code) (ad : Nat → Nat) (H : Heap) (locs : List Loc) (cells slots : Nat) (ls : Array Slot) (Z : State → Prop),
      ma_CX M p l s m args meth c → W p l e R s m args below meth c H locs cells slots Z (F0 m pc2 ls (st2.map (ma_rv ad))) → W p l e R s m args below meth c H locs cells slots Z (F0 m pc ls (st.map (ma_rv ad))))
    (K : ma_J scr M d kc ks pc2 lv st2 h nx Q) : ma_J scr M d kc ks pc lv st h nx Q := by
  intro p l e R s m args below meth c D cT A ad base H locs cells slots ls Z CX hA SP HP hS hl hf hL hc hs FIN
  exact f p l e R s m args below meth c ad H locs cells slots ls Z CX (K p l e R s m args below meth c D cT A ad base H locs cells slots ls Z CX hA SP HP hS hl hf hL hc hs FIN)
/-- a step that reads the locals -/
theorem ma_goL {pc2 : Nat} {st2 : List ma_V} (f : ∀ (p : Program) (l : Launch) (e : Env) (R : Room) (s : State) (m : MethodId) (args : Array Value) (below : List Frame) (meth : Method) (c : Code) (ad : Nat → Nat) (H : Heap) (locs : List Loc) (cells slots : Nat) (ls : Array Slot) (Z : State → Prop),
      ma_CX M p l s m args meth c → ma_L ad ls M.2.2.1 lv → W p l e R s m args below meth c H locs cells slots Z (F0 m pc2 ls (st2.map (ma_rv ad))) → W p l e R s m args below meth c H locs cells slots Z (F0 m pc ls (st.map (ma_rv ad))))
    (K : ma_J scr M d kc ks pc2 lv st2 h nx Q) : ma_J scr M d kc ks pc lv st h nx Q := by
  intro p l e R s m args below meth c D cT A ad base H locs cells slots ls Z CX hA SP HP hS hl hf hL hc hs FIN
  exact f p l e R s m args below meth c ad H locs cells slots ls Z CX hl (K p l e R s m args below meth c D cT A ad base H locs cells slots ls Z CX hA SP HP hS hl hf hL hc hs FIN)
theorem ma_iconst {n : Int} (hd : decode M.2.1 pc = .ok (.iconst n, 1)) (K : ma_J scr M d kc ks (pc + 1) lv (vi n :: st) h nx Q) : ma_J scr M d kc ks pc lv st h nx Q :=
  ma_go (fun _ _ _ _ _ _ _ _ _ _ _ _ _ _ _ _ _ CX k => lv_iconst CX.1 CX.2.1 hd rfl k) K
theorem ma_bipush {n : Int} (hd : decode M.2.1 pc = .ok (.bipush n, 2)) (K : ma_J scr M d kc ks (pc + 2) lv (vi n :: st) h nx Q) (hn : (Int8.ofInt n).toInt32 = Int32.ofInt n := by decide +kernel) : ma_J scr M d kc ks pc lv st h nx Q :=
  ma_go (fun _ _ _ _ _ _ _ _ _ _ _ _ _ _ _ _ _ CX k => lv_bipush CX.1 CX.2.1 hd hn k) K
theorem ma_sipush {n : Int} (hd : decode M.2.1 pc = .ok (.sipush n, 3)) (K : ma_J scr M d kc ks (pc + 3) lv (vi n :: st) h nx Q) (hn : (Int16.ofInt n).toInt32 = Int32.ofInt n := by decide +kernel) : ma_J scr M d kc ks pc lv st h nx Q :=
  ma_go (fun _ _ _ _ _ _ _ _ _ _ _ _ _ _ _ _ _ CX k => lv_sipush CX.1 CX.2.1 hd hn k) K
theorem ma_lconst {n : Fin 2} {z : Int} (hd : decode M.2.1 pc = .ok (.lconst n, 1)) (hz : z = ((n : Nat) : Int)) (K : ma_J scr M d kc ks (pc + 1) lv (vl z :: st) h nx Q) : ma_J scr M d kc ks pc lv st h nx Q := by
  subst hz
  exact ma_go (fun _ _ _ _ _ _ _ _ _ _ _ _ _ _ _ _ _ CX k => lv_lconst CX.1 CX.2.1 hd (Int64.ofInt_eq_ofNat ..).symm k) K
theorem ma_ldc {i : Nat} {n : Int} {v : Int32} (hd : decode M.2.1 pc = .ok (.ldc i, 2)) (hw : Cond.constant M.1.cls i v ∈ ma_gt) (hv : v = Int32.ofInt n) (K : ma_J scr M d kc ks (pc + 2) lv (vi n :: st) h nx Q) : ma_J scr M d kc ks pc lv st h nx Q := by
  subst hv
  exact ma_go (fun _ _ _ _ _ _ _ _ _ _ _ _ _ _ _ _ _ CX k => lv_ldc CX.1 CX.2.1 CX.2.2.2.2.1 (CX.2.2.2.2.2.2.1 _ hw) hd k) K
theorem ma_ldcw {i : Nat} {n : Int} {v : Int32} (hd : decode M.2.1 pc = .ok (.ldc_w i, 3)) (hw : Cond.constant M.1.cls i v ∈ ma_gt) (hv : v = Int32.ofInt n) (K : ma_J scr M d kc ks (pc + 3) lv (vi n :: st) h nx Q) : ma_J scr M d kc ks pc lv st h nx Q := by
  subst hv
  exact ma_go (fun _ _ _ _ _ _ _ _ _ _ _ _ _ _ _ _ _ CX k => lv_ldcw CX.1 CX.2.1 CX.2.2.2.2.1 (CX.2.2.2.2.2.2.1 _ hw) hd k) K
theorem ma_ldc2 {i : Nat} {n : Int} {v : Int64} (hd : decode M.2.1 pc = .ok (.ldc2_w i, 3)) (hw : Cond.constantLong M.1.cls i v ∈ ma_gt) (hv : v = Int64.ofInt n) (K : ma_J scr M d kc ks (pc + 3) lv (vl n :: st) h nx Q) : ma_J scr M d kc ks pc lv st h nx Q := by
  subst hv
  exact ma_go (fun _ _ _ _ _ _ _ _ _ _ _ _ _ _ _ _ _ CX k => lv_ldc2 CX.1 CX.2.1 CX.2.2.2.2.1 (CX.2.2.2.2.2.2.1 _ hw) hd k) K
theorem ma_iload_n {k : Fin 4} {x : Int} (hd : decode M.2.1 pc = .ok (.iload_n k, 1)) (hl : lv[(k : Nat)]? = some (some (vi x))) (K : ma_J scr M d kc ks (pc + 1) lv (vi x :: st) h nx Q) : ma_J scr M d kc ks pc lv st h nx Q :=
  ma_goL (fun _ _ _ _ _ _ _ _ _ _ _ _ _ _ _ _ _ CX L k => lv_iload_n CX.1 CX.2.1 hd rfl (L.2.2 _ _ hl) k) K
theorem ma_iload {i : Nat} {x : Int} (hd : decode M.2.1 pc = .ok (.iload i, 2)) (hl : lv[i]? = some (some (vi x))) (K : ma_J scr M d kc ks (pc + 2) lv (vi x :: st) h nx Q) : ma_J scr M d kc ks pc lv st h nx Q :=
  ma_goL (fun _ _ _ _ _ _ _ _ _ _ _ _ _ _ _ _ _ CX L k => lv_iload CX.1 CX.2.1 hd (L.2.2 _ _ hl) k) K
theorem ma_lload_n {k : Fin 4} {x : Int} (hd : decode M.2.1 pc = .ok (.lload_n k, 1)) (hl : lv[(k : Nat)]? = some (some (vl x))) (K : ma_J scr M d kc ks (pc + 1) lv (vl x :: st) h nx Q) : ma_J scr M d kc ks pc lv st h nx Q :=
  ma_goL (fun _ _ _ _ _ _ _ _ _ _ _ _ _ _ _ _ _ CX L k => lv_lload_n CX.1 CX.2.1 hd rfl (L.2.2 _ _ hl) k) K
theorem ma_lload {i : Nat} {x : Int} (hd : decode M.2.1 pc = .ok (.lload i, 2)) (hl : lv[i]? = some (some (vl x))) (K : ma_J scr M d kc ks (pc + 2) lv (vl x :: st) h nx Q) : ma_J scr M d kc ks pc lv st h nx Q :=
  ma_goL (fun _ _ _ _ _ _ _ _ _ _ _ _ _ _ _ _ _ CX L k => lv_lload CX.1 CX.2.1 hd (L.2.2 _ _ hl) k) K
theorem ma_aload_n {k : Fin 4} {x : Nat} (hd : decode M.2.1 pc = .ok (.aload_n k, 1)) (hl : lv[(k : Nat)]? = some (some (vr x))) (K : ma_J scr M d kc ks (pc + 1) lv (vr x :: st) h nx Q) : ma_J scr M d kc ks pc lv st h nx Q :=
  ma_goL (fun _ _ _ _ _ _ _ _ _ _ _ _ _ _ _ _ _ CX L k => lv_aload_n CX.1 CX.2.1 hd rfl (L.2.2 _ _ hl) k) K
theorem ma_aload {i : Nat} {x : Nat} (hd : decode M.2.1 pc = .ok (.aload i, 2)) (hl : lv[i]? = some (some (vr x))) (K : ma_J scr M d kc ks (pc + 2) lv (vr x :: st) h nx Q) : ma_J scr M d kc ks pc lv st h nx Q :=
  ma_goL (fun _ _ _ _ _ _ _ _ _ _ _ _ _ _ _ _ _ CX L k => lv_aload CX.1 CX.2.1 hd (L.2.2 _ _ hl) k) K
theorem ma_iadd {x y : Int} (hd : decode M.2.1 pc = .ok (.iadd, 1)) (K : ma_J scr M d kc ks (pc + 1) lv (vi (x + y) :: st) h nx Q) : ma_J scr M d kc ks pc lv (vi y :: vi x :: st) h nx Q :=
  ma_go (fun _ _ _ _ _ _ _ _ _ _ _ _ _ _ _ _ _ CX k => lv_iadd CX.1 CX.2.1 hd (by rw [← Int32.ofInt_add]; exact k)) K
theorem ma_isub {x y : Int} (hd : decode M.2.1 pc = .ok (.isub, 1)) (K : ma_J scr M d kc ks (pc + 1) lv (vi (x - y) :: st) h nx Q) : ma_J scr M d kc ks pc lv (vi y :: vi x :: st) h nx Q :=
  ma_go (fun _ _ _ _ _ _ _ _ _ _ _ _ _ _ _ _ _ CX k => lv_isub CX.1 CX.2.1 hd (by rw [← Int32.ofInt_sub]; exact k)) K
theorem ma_imul {x y : Int} (hd : decode M.2.1 pc = .ok (.imul, 1)) (K : ma_J scr M d kc ks (pc + 1) lv (vi (x * y) :: st) h nx Q) : ma_J scr M d kc ks pc lv (vi y :: vi x :: st) h nx Q :=
  ma_go (fun _ _ _ _ _ _ _ _ _ _ _ _ _ _ _ _ _ CX k => lv_imul CX.1 CX.2.1 hd (by rw [← Int32.ofInt_mul]; exact k)) K
theorem ma_ineg {x : Int} (hd : decode M.2.1 pc = .ok (.ineg, 1)) (K : ma_J scr M d kc ks (pc + 1) lv (vi (-x) :: st) h nx Q) : ma_J scr M d kc ks pc lv (vi x :: st) h nx Q :=
  ma_go (fun _ _ _ _ _ _ _ _ _ _ _ _ _ _ _ _ _ CX k => lv_ineg CX.1 CX.2.1 hd (by rw [← Int32.ofInt_neg]; exact k)) K
theorem ma_idiv {x y : Int} (hd : decode M.2.1 pc = .ok (.idiv, 1)) (hy : iw y ≠ 0) (K : ma_J scr M d kc ks (pc + 1) lv (vi (Int.tdiv (iw x) (iw y)) :: st) h nx Q) : ma_J scr M d kc ks pc lv (vi y :: vi x :: st) h nx Q :=
  ma_go (fun _ _ _ _ _ _ _ _ _ _ _ _ _ _ _ _ _ CX k => lv_idiv CX.1 CX.2.1 hd (fun e => hy (by unfold iw; rw [e]; rfl)) (by rw [← iw_div]; exact k)) K
theorem ma_irem {x y : Int} (hd : decode M.2.1 pc = .ok (.irem, 1)) (hy : iw y ≠ 0) (K : ma_J scr M d kc ks (pc + 1) lv (vi (Int.tmod (iw x) (iw y)) :: st) h nx Q) : ma_J scr M d kc ks pc lv (vi y :: vi x :: st) h nx Q :=
  ma_go (fun _ _ _ _ _ _ _ _ _ _ _ _ _ _ _ _ _ CX k => lv_irem CX.1 CX.2.1 hd (fun e => hy (by unfold iw; rw [e]; rfl)) (by rw [← iw_rem]; exact k)) K
theorem ma_iand {x y : Int} (hd : decode M.2.1 pc = .ok (.iand, 1)) (K : ma_J scr M d kc ks (pc + 1) lv (vi (bi_and x y) :: st) h nx Q) : ma_J scr M d kc ks pc lv (vi y :: vi x :: st) h nx Q :=
  ma_go (fun _ _ _ _ _ _ _ _ _ _ _ _ _ _ _ _ _ CX k => lv_iand CX.1 CX.2.1 hd (by simpa only [List.map_cons, ma_rv, bi_and, Int32.ofInt_toInt] using k)) K
theorem ma_ior {x y : Int} (hd : decode M.2.1 pc = .ok (.ior, 1)) (K : ma_J scr M d kc ks (pc + 1) lv (vi (bi_or x y) :: st) h nx Q) : ma_J scr M d kc ks pc lv (vi y :: vi x :: st) h nx Q :=
  ma_go (fun _ _ _ _ _ _ _ _ _ _ _ _ _ _ _ _ _ CX k => lv_ior CX.1 CX.2.1 hd (by simpa only [List.map_cons, ma_rv, bi_or, Int32.ofInt_toInt] using k)) K
theorem ma_ixor {x y : Int} (hd : decode M.2.1 pc = .ok (.ixor, 1)) (K : ma_J scr M d kc ks (pc + 1) lv (vi (bi_xor x y) :: st) h nx Q) : ma_J scr M d kc ks pc lv (vi y :: vi x :: st) h nx Q :=
  ma_go (fun _ _ _ _ _ _ _ _ _ _ _ _ _ _ _ _ _ CX k => lv_ixor CX.1 CX.2.1 hd (by simpa only [List.map_cons, ma_rv, bi_xor, Int32.ofInt_toInt] using k)) K
theorem ma_ishl {x y : Int} (hd : decode M.2.1 pc = .ok (.ishl, 1)) (K : ma_J scr M d kc ks (pc + 1) lv (vi (bi_shl x y) :: st) h nx Q) : ma_J scr M d kc ks pc lv (vi y :: vi x :: st) h nx Q :=
  ma_go (fun _ _ _ _ _ _ _ _ _ _ _ _ _ _ _ _ _ CX k => lv_ishl CX.1 CX.2.1 hd (by simpa only [List.map_cons, ma_rv, bi_shl, Int32.ofInt_toInt] using k)) K
theorem ma_ishr {x y : Int} (hd : decode M.2.1 pc = .ok (.ishr, 1)) (K : ma_J scr M d kc ks (pc + 1) lv (vi (bi_shr x y) :: st) h nx Q) : ma_J scr M d kc ks pc lv (vi y :: vi x :: st) h nx Q :=
  ma_go (fun _ _ _ _ _ _ _ _ _ _ _ _ _ _ _ _ _ CX k => lv_ishr CX.1 CX.2.1 hd (by simpa only [List.map_cons, ma_rv, bi_shr, Int32.ofInt_toInt] using k)) K
theorem ma_iushr {x y : Int} (hd : decode M.2.1 pc = .ok (.iushr, 1)) (K : ma_J scr M d kc ks (pc + 1) lv (vi (bi_ushr x y) :: st) h nx Q) : ma_J scr M d kc ks pc lv (vi y :: vi x :: st) h nx Q :=
  ma_go (fun _ _ _ _ _ _ _ _ _ _ _ _ _ _ _ _ _ CX k => lv_iushr CX.1 CX.2.1 hd rfl (by simpa only [List.map_cons, ma_rv, bi_ushr, Int32.ofInt_toInt] using k)) K
theorem ma_i2b {x : Int} (hd : decode M.2.1 pc = .ok (.i2b, 1)) (K : ma_J scr M d kc ks (pc + 1) lv (vi (bi_b x) :: st) h nx Q) : ma_J scr M d kc ks pc lv (vi x :: st) h nx Q :=
  ma_go (fun _ _ _ _ _ _ _ _ _ _ _ _ _ _ _ _ _ CX k => lv_i2b CX.1 CX.2.1 hd rfl (by simpa only [List.map_cons, ma_rv, bi_b, Int32.ofInt_toInt] using k)) K
theorem ma_i2s {x : Int} (hd : decode M.2.1 pc = .ok (.i2s, 1)) (K : ma_J scr M d kc ks (pc + 1) lv (vi (bi_s x) :: st) h nx Q) : ma_J scr M d kc ks pc lv (vi x :: st) h nx Q :=
  ma_go (fun _ _ _ _ _ _ _ _ _ _ _ _ _ _ _ _ _ CX k => lv_i2s CX.1 CX.2.1 hd rfl (by simpa only [List.map_cons, ma_rv, bi_s, Int32.ofInt_toInt] using k)) K
theorem ma_i2l {x : Int} (hd : decode M.2.1 pc = .ok (.i2l, 1)) (K : ma_J scr M d kc ks (pc + 1) lv (vl (iw x) :: st) h nx Q) : ma_J scr M d kc ks pc lv (vi x :: st) h nx Q :=
  ma_go (fun _ _ _ _ _ _ _ _ _ _ _ _ _ _ _ _ _ CX k => lv_i2l CX.1 CX.2.1 hd (iw_long x) k) K
theorem ma_ladd {x y : Int} (hd : decode M.2.1 pc = .ok (.ladd, 1)) (K : ma_J scr M d kc ks (pc + 1) lv (vl (x + y) :: st) h nx Q) : ma_J scr M d kc ks pc lv (vl y :: vl x :: st) h nx Q :=
  ma_go (fun _ _ _ _ _ _ _ _ _ _ _ _ _ _ _ _ _ CX k => lv_ladd CX.1 CX.2.1 hd (by rw [← Int64.ofInt_add]; exact k)) K
theorem ma_lsub {x y : Int} (hd : decode M.2.1 pc = .ok (.lsub, 1)) (K : ma_J scr M d kc ks (pc + 1) lv (vl (x - y) :: st) h nx Q) : ma_J scr M d kc ks pc lv (vl y :: vl x :: st) h nx Q :=
  ma_go (fun _ _ _ _ _ _ _ _ _ _ _ _ _ _ _ _ _ CX k => lv_lsub CX.1 CX.2.1 hd (by rw [← Int64.ofInt_sub]; exact k)) K
theorem ma_lmul {x y : Int} (hd : decode M.2.1 pc = .ok (.lmul, 1)) (K : ma_J scr M d kc ks (pc + 1) lv (vl (x * y) :: st) h nx Q) : ma_J scr M d kc ks pc lv (vl y :: vl x :: st) h nx Q :=
  ma_go (fun _ _ _ _ _ _ _ _ _ _ _ _ _ _ _ _ _ CX k => lv_lmul CX.1 CX.2.1 hd (by rw [← Int64.ofInt_mul]; exact k)) K
theorem ma_ldiv {x y : Int} (hd : decode M.2.1 pc = .ok (.ldiv, 1)) (hy : jw y ≠ 0) (K : ma_J scr M d kc ks (pc + 1) lv (vl (Int.tdiv (jw x) (jw y)) :: st) h nx Q) : ma_J scr M d kc ks pc lv (vl y :: vl x :: st) h nx Q :=
  ma_go (fun _ _ _ _ _ _ _ _ _ _ _ _ _ _ _ _ _ CX k => lv_ldiv CX.1 CX.2.1 hd (fun e => hy (by unfold jw; rw [e]; rfl)) (by rw [← jw_div]; exact k)) K
theorem ma_lrem {x y : Int} (hd : decode M.2.1 pc = .ok (.lrem, 1)) (hy : jw y ≠ 0) (K : ma_J scr M d kc ks (pc + 1) lv (vl (Int.tmod (jw x) (jw y)) :: st) h nx Q) : ma_J scr M d kc ks pc lv (vl y :: vl x :: st) h nx Q :=
  ma_go (fun _ _ _ _ _ _ _ _ _ _ _ _ _ _ _ _ _ CX k => lv_lrem CX.1 CX.2.1 hd (fun e => hy (by unfold jw; rw [e]; rfl)) (by rw [← jw_rem]; exact k)) K
theorem ma_lneg {x : Int} (hd : decode M.2.1 pc = .ok (.lneg, 1)) (K : ma_J scr M d kc ks (pc + 1) lv (vl (-x) :: st) h nx Q) : ma_J scr M d kc ks pc lv (vl x :: st) h nx Q :=
  ma_go (fun _ _ _ _ _ _ _ _ _ _ _ _ _ _ _ _ _ CX k => lv_lneg CX.1 CX.2.1 hd (by rw [← Int64.ofInt_neg]; exact k)) K
theorem ma_cat1 (ad : Nat → Nat) (v : ma_V) (hv : ∀ b, v ≠ .inr (.inl b)) : (ma_rv ad v).category = 1 := by
  rcases v with a | b | (_ | k)
  · rfl
  · exact absurd rfl (hv b)
  · rfl
  · rfl
def ma_one : ma_V → Bool
  | .inr (.inl _) => false
  | _ => true
theorem ma_one_cat (ad : Nat → Nat) {v : ma_V} (hv : ma_one v = true) : (ma_rv ad v).category = 1 := ma_cat1 ad v (fun b e => by rw [e] at hv; cases hv)
theorem ma_dup {v : ma_V} (hd : decode M.2.1 pc = .ok (.dup, 1)) (hv : ma_one v = true) (K : ma_J scr M d kc ks (pc + 1) lv (v :: v :: st) h nx Q) : ma_J scr M d kc ks pc lv (v :: st) h nx Q :=
  ma_go (fun _ _ _ _ _ _ _ _ _ _ ad _ _ _ _ _ _ CX k => lv_dup CX.1 CX.2.1 hd (ma_one_cat ad hv) k) K
theorem ma_pop {v : ma_V} (hd : decode M.2.1 pc = .ok (.pop, 1)) (hv : ma_one v = true) (K : ma_J scr M d kc ks (pc + 1) lv st h nx Q) : ma_J scr M d kc ks pc lv (v :: st) h nx Q :=
  ma_go (fun _ _ _ _ _ _ _ _ _ _ ad _ _ _ _ _ _ CX k => lv_pop CX.1 CX.2.1 hd (ma_one_cat ad hv) k) K
theorem ma_dup_x1 {v w : ma_V} (hd : decode M.2.1 pc = .ok (.dup_x1, 1)) (hv : ma_one v = true) (hw : ma_one w = true) (K : ma_J scr M d kc ks (pc + 1) lv (v :: w :: v :: st) h nx Q) : ma_J scr M d kc ks pc lv (v :: w :: st) h nx Q :=
  ma_go (fun _ _ _ _ _ _ _ _ _ _ ad _ _ _ _ _ _ CX k => lv_dup_x1 CX.1 CX.2.1 hd (ma_one_cat ad hv) (ma_one_cat ad hw) k) K
theorem ma_dup2 {v w : ma_V} (hd : decode M.2.1 pc = .ok (.dup2, 1)) (hv : ma_one v = true) (hw : ma_one w = true) (K : ma_J scr M d kc ks (pc + 1) lv (v :: w :: v :: w :: st) h nx Q) : ma_J scr M d kc ks pc lv (v :: w :: st) h nx Q :=
  ma_go (fun _ _ _ _ _ _ _ _ _ _ ad _ _ _ _ _ _ CX k => lv_dup2_11 CX.1 CX.2.1 hd (ma_one_cat ad hv) (ma_one_cat ad hw) k) K
theorem ma_goto {off : Int} (tgt : Nat) (hd : decode M.2.1 pc = .ok (.goto off, 3)) (ht : (pc : Int) + off = (tgt : Int)) (K : ma_J scr M d kc ks tgt lv st h nx Q) : ma_J scr M d kc ks pc lv st h nx Q :=
  ma_go (fun _ _ _ _ _ _ _ _ _ _ _ _ _ _ _ _ _ CX k => lv_goto CX.1 CX.2.1 hd ht k) K
/-- a step with two ways on -/
theorem ma_two {c1 c2 : Prop} {pc1 pc2 : Nat} {st2 : List ma_V} (f : ∀ (p : Program) (l : Launch) (e : Env) (R : Room) (s : State) (m : MethodId) (args : Array Value) (below : List Frame) (meth : Method) (c : Code) (ad : Nat → Nat) (H : Heap) (locs : List Loc) (cells slots : Nat) (ls : Array Slot) (Z : State → Prop),
      ma_CX M p l s m args meth c → (c1 → W p l e R s m args below meth c H locs cells slots Z (F0 m pc1 ls (st2.map (ma_rv ad)))) → (c2 → W p l e R s m args below meth c H locs cells slots Z (F0 m pc2 ls (st2.map (ma_rv ad)))) → W p l e R s m args below meth c H locs cells slots Z (F0 m pc ls (st.map (ma_rv ad))))
    (K1 : c1 → ma_J scr M d kc ks pc1 lv st2 h nx Q) (K2 : c2 → ma_J scr M d kc ks pc2 lv st2 h nx Q) : ma_J scr M d kc ks pc lv st h nx Q := by
  intro p l e R s m args below meth c D cT A ad base H locs cells slots ls Z CX hA SP HP hS hl hf hL hc hs FIN
  exact f p l e R s m args below meth c ad H locs cells slots ls Z CX (fun q => K1 q p l e R s m args below meth c D cT A ad base H locs cells slots ls Z CX hA SP HP hS hl hf hL hc hs FIN) (fun q => K2 q p l e R s m args below meth c D cT A ad base H locs cells slots ls Z CX hA SP HP hS hl hf hL hc hs FIN)
theorem iw_0 : iw 0 = 0 := by decide +kernel
theorem ma_icmp_eq {x y off : Int} (tgt : Nat) (hd : decode M.2.1 pc = .ok (.if_icmp .eq off, 3)) (ht : (pc : Int) + off = (tgt : Int)) (K1 : iw x = iw y → ma_J scr M d kc ks tgt lv st h nx Q) (K2 : iw x ≠ iw y → ma_J scr M d kc ks (pc + 3) lv st h nx Q) : ma_J scr M d kc ks pc lv (vi y :: vi x :: st) h nx Q :=
  ma_two (fun _ _ _ _ _ _ _ _ _ _ _ _ _ _ _ _ _ CX k1 k2 => lv_icmp_eq CX.1 CX.2.1 hd ht (fun q => k1 (iw_eq.mp q)) (fun q => k2 (fun z => q (iw_eq.mpr z)))) K1 K2
theorem ma_rcmp_eq {x y off : Int} (tgt : Nat) (hd : decode M.2.1 pc = .ok (.if_icmp .eq off, 3)) (ht : (pc : Int) + off = (tgt : Int)) (hx : -2147483648 ≤ x ∧ x ≤ 2147483647) (hy : -2147483648 ≤ y ∧ y ≤ 2147483647) (K1 : x = y → ma_J scr M d kc ks tgt lv st h nx Q) (K2 : x ≠ y → ma_J scr M d kc ks (pc + 3) lv st h nx Q) : ma_J scr M d kc ks pc lv (vi y :: vi x :: st) h nx Q :=
  ma_icmp_eq tgt hd ht (fun q => K1 (by rw [iw_of hx.1 hx.2, iw_of hy.1 hy.2] at q; exact q)) (fun q => K2 (by rw [iw_of hx.1 hx.2, iw_of hy.1 hy.2] at q; exact q))
theorem ma_if_eq {x off : Int} (tgt : Nat) (hd : decode M.2.1 pc = .ok (.ifCond .eq off, 3)) (ht : (pc : Int) + off = (tgt : Int)) (K1 : iw x = 0 → ma_J scr M d kc ks tgt lv st h nx Q) (K2 : iw x ≠ 0 → ma_J scr M d kc ks (pc + 3) lv st h nx Q) : ma_J scr M d kc ks pc lv (vi x :: st) h nx Q :=
  ma_two (fun _ _ _ _ _ _ _ _ _ _ _ _ _ _ _ _ _ CX k1 k2 => lv_if_eq CX.1 CX.2.1 hd ht (fun q => k1 (by have z := (@iw_eq x 0).mp q; rw [iw_0] at z; exact z)) (fun q => k2 (fun z => q ((@iw_eq x 0).mpr (by rw [iw_0]; exact z))))) K1 K2
theorem ma_rif_eq {x off : Int} (tgt : Nat) (hd : decode M.2.1 pc = .ok (.ifCond .eq off, 3)) (ht : (pc : Int) + off = (tgt : Int)) (hx : -2147483648 ≤ x ∧ x ≤ 2147483647) (K1 : x = 0 → ma_J scr M d kc ks tgt lv st h nx Q) (K2 : x ≠ 0 → ma_J scr M d kc ks (pc + 3) lv st h nx Q) : ma_J scr M d kc ks pc lv (vi x :: st) h nx Q :=
  ma_if_eq tgt hd ht (fun q => K1 (by rw [iw_of hx.1 hx.2] at q; exact q)) (fun q => K2 (by rw [iw_of hx.1 hx.2] at q; exact q))
theorem ma_icmp_ne {x y off : Int} (tgt : Nat) (hd : decode M.2.1 pc = .ok (.if_icmp .ne off, 3)) (ht : (pc : Int) + off = (tgt : Int)) (K1 : iw x ≠ iw y → ma_J scr M d kc ks tgt lv st h nx Q) (K2 : iw x = iw y → ma_J scr M d kc ks (pc + 3) lv st h nx Q) : ma_J scr M d kc ks pc lv (vi y :: vi x :: st) h nx Q :=
  ma_two (fun _ _ _ _ _ _ _ _ _ _ _ _ _ _ _ _ _ CX k1 k2 => lv_icmp_ne CX.1 CX.2.1 hd ht (fun q => k1 (fun z => q (iw_eq.mpr z))) (fun q => k2 (iw_eq.mp q))) K1 K2
theorem ma_rcmp_ne {x y off : Int} (tgt : Nat) (hd : decode M.2.1 pc = .ok (.if_icmp .ne off, 3)) (ht : (pc : Int) + off = (tgt : Int)) (hx : -2147483648 ≤ x ∧ x ≤ 2147483647) (hy : -2147483648 ≤ y ∧ y ≤ 2147483647) (K1 : x ≠ y → ma_J scr M d kc ks tgt lv st h nx Q) (K2 : x = y → ma_J scr M d kc ks (pc + 3) lv st h nx Q) : ma_J scr M d kc ks pc lv (vi y :: vi x :: st) h nx Q :=
  ma_icmp_ne tgt hd ht (fun q => K1 (by rw [iw_of hx.1 hx.2, iw_of hy.1 hy.2] at q; exact q)) (fun q => K2 (by rw [iw_of hx.1 hx.2, iw_of hy.1 hy.2] at q; exact q))
theorem ma_if_ne {x off : Int} (tgt : Nat) (hd : decode M.2.1 pc = .ok (.ifCond .ne off, 3)) (ht : (pc : Int) + off = (tgt : Int)) (K1 : iw x ≠ 0 → ma_J scr M d kc ks tgt lv st h nx Q) (K2 : iw x = 0 → ma_J scr M d kc ks (pc + 3) lv st h nx Q) : ma_J scr M d kc ks pc lv (vi x :: st) h nx Q :=
  ma_two (fun _ _ _ _ _ _ _ _ _ _ _ _ _ _ _ _ _ CX k1 k2 => lv_if_ne CX.1 CX.2.1 hd ht (fun q => k1 (fun z => q ((@iw_eq x 0).mpr (by rw [iw_0]; exact z)))) (fun q => k2 (by have z := (@iw_eq x 0).mp q; rw [iw_0] at z; exact z))) K1 K2
theorem ma_rif_ne {x off : Int} (tgt : Nat) (hd : decode M.2.1 pc = .ok (.ifCond .ne off, 3)) (ht : (pc : Int) + off = (tgt : Int)) (hx : -2147483648 ≤ x ∧ x ≤ 2147483647) (K1 : x ≠ 0 → ma_J scr M d kc ks tgt lv st h nx Q) (K2 : x = 0 → ma_J scr M d kc ks (pc + 3) lv st h nx Q) : ma_J scr M d kc ks pc lv (vi x :: st) h nx Q :=
  ma_if_ne tgt hd ht (fun q => K1 (by rw [iw_of hx.1 hx.2] at q; exact q)) (fun q => K2 (by rw [iw_of hx.1 hx.2] at q; exact q))
theorem ma_icmp_lt {x y off : Int} (tgt : Nat) (hd : decode M.2.1 pc = .ok (.if_icmp .lt off, 3)) (ht : (pc : Int) + off = (tgt : Int)) (K1 : iw x < iw y → ma_J scr M d kc ks tgt lv st h nx Q) (K2 : iw y ≤ iw x → ma_J scr M d kc ks (pc + 3) lv st h nx Q) : ma_J scr M d kc ks pc lv (vi y :: vi x :: st) h nx Q :=
  ma_two (fun _ _ _ _ _ _ _ _ _ _ _ _ _ _ _ _ _ CX k1 k2 => lv_icmp_lt CX.1 CX.2.1 hd ht (fun q => k1 (iw_lt.mp q)) (fun q => k2 (Int.not_lt.mp (fun z => q (iw_lt.mpr z))))) K1 K2
theorem ma_rcmp_lt {x y off : Int} (tgt : Nat) (hd : decode M.2.1 pc = .ok (.if_icmp .lt off, 3)) (ht : (pc : Int) + off = (tgt : Int)) (hx : -2147483648 ≤ x ∧ x ≤ 2147483647) (hy : -2147483648 ≤ y ∧ y ≤ 2147483647) (K1 : x < y → ma_J scr M d kc ks tgt lv st h nx Q) (K2 : y ≤ x → ma_J scr M d kc ks (pc + 3) lv st h nx Q) : ma_J scr M d kc ks pc lv (vi y :: vi x :: st) h nx Q :=
  ma_icmp_lt tgt hd ht (fun q => K1 (by rw [iw_of hx.1 hx.2, iw_of hy.1 hy.2] at q; exact q)) (fun q => K2 (by rw [iw_of hx.1 hx.2, iw_of hy.1 hy.2] at q; exact q))
theorem ma_if_lt {x off : Int} (tgt : Nat) (hd : decode M.2.1 pc = .ok (.ifCond .lt off, 3)) (ht : (pc : Int) + off = (tgt : Int)) (K1 : iw x < 0 → ma_J scr M d kc ks tgt lv st h nx Q) (K2 : 0 ≤ iw x → ma_J scr M d kc ks (pc + 3) lv st h nx Q) : ma_J scr M d kc ks pc lv (vi x :: st) h nx Q :=
  ma_two (fun _ _ _ _ _ _ _ _ _ _ _ _ _ _ _ _ _ CX k1 k2 => lv_if_lt CX.1 CX.2.1 hd ht (fun q => k1 (by have z := (@iw_lt x 0).mp q; rw [iw_0] at z; exact z)) (fun q => k2 (Int.not_lt.mp (fun z => q ((@iw_lt x 0).mpr (by rw [iw_0]; exact z)))))) K1 K2
theorem ma_rif_lt {x off : Int} (tgt : Nat) (hd : decode M.2.1 pc = .ok (.ifCond .lt off, 3)) (ht : (pc : Int) + off = (tgt : Int)) (hx : -2147483648 ≤ x ∧ x ≤ 2147483647) (K1 : x < 0 → ma_J scr M d kc ks tgt lv st h nx Q) (K2 : 0 ≤ x → ma_J scr M d kc ks (pc + 3) lv st h nx Q) : ma_J scr M d kc ks pc lv (vi x :: st) h nx Q :=
  ma_if_lt tgt hd ht (fun q => K1 (by rw [iw_of hx.1 hx.2] at q; exact q)) (fun q => K2 (by rw [iw_of hx.1 hx.2] at q; exact q))
theorem ma_icmp_ge {x y off : Int} (tgt : Nat) (hd : decode M.2.1 pc = .ok (.if_icmp .ge off, 3)) (ht : (pc : Int) + off = (tgt : Int)) (K1 : iw y ≤ iw x → ma_J scr M d kc ks tgt lv st h nx Q) (K2 : iw x < iw y → ma_J scr M d kc ks (pc + 3) lv st h nx Q) : ma_J scr M d kc ks pc lv (vi y :: vi x :: st) h nx Q :=
  ma_two (fun _ _ _ _ _ _ _ _ _ _ _ _ _ _ _ _ _ CX k1 k2 => lv_icmp_ge CX.1 CX.2.1 hd ht (fun q => k1 (iw_le.mp q)) (fun q => k2 (Int.not_le.mp (fun z => q (iw_le.mpr z))))) K1 K2
theorem ma_rcmp_ge {x y off : Int} (tgt : Nat) (hd : decode M.2.1 pc = .ok (.if_icmp .ge off, 3)) (ht : (pc : Int) + off = (tgt : Int)) (hx : -2147483648 ≤ x ∧ x ≤ 2147483647) (hy : -2147483648 ≤ y ∧ y ≤ 2147483647) (K1 : y ≤ x → ma_J scr M d kc ks tgt lv st h nx Q) (K2 : x < y → ma_J scr M d kc ks (pc + 3) lv st h nx Q) : ma_J scr M d kc ks pc lv (vi y :: vi x :: st) h nx Q :=
  ma_icmp_ge tgt hd ht (fun q => K1 (by rw [iw_of hx.1 hx.2, iw_of hy.1 hy.2] at q; exact q)) (fun q => K2 (by rw [iw_of hx.1 hx.2, iw_of hy.1 hy.2] at q; exact q))
theorem ma_if_ge {x off : Int} (tgt : Nat) (hd : decode M.2.1 pc = .ok (.ifCond .ge off, 3)) (ht : (pc : Int) + off = (tgt : Int)) (K1 : 0 ≤ iw x → ma_J scr M d kc ks tgt lv st h nx Q) (K2 : iw x < 0 → ma_J scr M d kc ks (pc + 3) lv st h nx Q) : ma_J scr M d kc ks pc lv (vi x :: st) h nx Q :=
  ma_two (fun _ _ _ _ _ _ _ _ _ _ _ _ _ _ _ _ _ CX k1 k2 => lv_if_ge CX.1 CX.2.1 hd ht (fun q => k1 (by have z := (@iw_le 0 x).mp q; rw [iw_0] at z; exact z)) (fun q => k2 (Int.not_le.mp (fun z => q ((@iw_le 0 x).mpr (by rw [iw_0]; exact z)))))) K1 K2
theorem ma_rif_ge {x off : Int} (tgt : Nat) (hd : decode M.2.1 pc = .ok (.ifCond .ge off, 3)) (ht : (pc : Int) + off = (tgt : Int)) (hx : -2147483648 ≤ x ∧ x ≤ 2147483647) (K1 : 0 ≤ x → ma_J scr M d kc ks tgt lv st h nx Q) (K2 : x < 0 → ma_J scr M d kc ks (pc + 3) lv st h nx Q) : ma_J scr M d kc ks pc lv (vi x :: st) h nx Q :=
  ma_if_ge tgt hd ht (fun q => K1 (by rw [iw_of hx.1 hx.2] at q; exact q)) (fun q => K2 (by rw [iw_of hx.1 hx.2] at q; exact q))
theorem ma_icmp_gt {x y off : Int} (tgt : Nat) (hd : decode M.2.1 pc = .ok (.if_icmp .gt off, 3)) (ht : (pc : Int) + off = (tgt : Int)) (K1 : iw y < iw x → ma_J scr M d kc ks tgt lv st h nx Q) (K2 : iw x ≤ iw y → ma_J scr M d kc ks (pc + 3) lv st h nx Q) : ma_J scr M d kc ks pc lv (vi y :: vi x :: st) h nx Q :=
  ma_two (fun _ _ _ _ _ _ _ _ _ _ _ _ _ _ _ _ _ CX k1 k2 => lv_icmp_gt CX.1 CX.2.1 hd ht (fun q => k1 (iw_lt.mp q)) (fun q => k2 (Int.not_lt.mp (fun z => q (iw_lt.mpr z))))) K1 K2
theorem ma_rcmp_gt {x y off : Int} (tgt : Nat) (hd : decode M.2.1 pc = .ok (.if_icmp .gt off, 3)) (ht : (pc : Int) + off = (tgt : Int)) (hx : -2147483648 ≤ x ∧ x ≤ 2147483647) (hy : -2147483648 ≤ y ∧ y ≤ 2147483647) (K1 : y < x → ma_J scr M d kc ks tgt lv st h nx Q) (K2 : x ≤ y → ma_J scr M d kc ks (pc + 3) lv st h nx Q) : ma_J scr M d kc ks pc lv (vi y :: vi x :: st) h nx Q :=
  ma_icmp_gt tgt hd ht (fun q => K1 (by rw [iw_of hx.1 hx.2, iw_of hy.1 hy.2] at q; exact q)) (fun q => K2 (by rw [iw_of hx.1 hx.2, iw_of hy.1 hy.2] at q; exact q))
theorem ma_if_gt {x off : Int} (tgt : Nat) (hd : decode M.2.1 pc = .ok (.ifCond .gt off, 3)) (ht : (pc : Int) + off = (tgt : Int)) (K1 : 0 < iw x → ma_J scr M d kc ks tgt lv st h nx Q) (K2 : iw x ≤ 0 → ma_J scr M d kc ks (pc + 3) lv st h nx Q) : ma_J scr M d kc ks pc lv (vi x :: st) h nx Q :=
  ma_two (fun _ _ _ _ _ _ _ _ _ _ _ _ _ _ _ _ _ CX k1 k2 => lv_if_gt CX.1 CX.2.1 hd ht (fun q => k1 (by have z := (@iw_lt 0 x).mp q; rw [iw_0] at z; exact z)) (fun q => k2 (Int.not_lt.mp (fun z => q ((@iw_lt 0 x).mpr (by rw [iw_0]; exact z)))))) K1 K2
theorem ma_rif_gt {x off : Int} (tgt : Nat) (hd : decode M.2.1 pc = .ok (.ifCond .gt off, 3)) (ht : (pc : Int) + off = (tgt : Int)) (hx : -2147483648 ≤ x ∧ x ≤ 2147483647) (K1 : 0 < x → ma_J scr M d kc ks tgt lv st h nx Q) (K2 : x ≤ 0 → ma_J scr M d kc ks (pc + 3) lv st h nx Q) : ma_J scr M d kc ks pc lv (vi x :: st) h nx Q :=
  ma_if_gt tgt hd ht (fun q => K1 (by rw [iw_of hx.1 hx.2] at q; exact q)) (fun q => K2 (by rw [iw_of hx.1 hx.2] at q; exact q))
theorem ma_icmp_le {x y off : Int} (tgt : Nat) (hd : decode M.2.1 pc = .ok (.if_icmp .le off, 3)) (ht : (pc : Int) + off = (tgt : Int)) (K1 : iw x ≤ iw y → ma_J scr M d kc ks tgt lv st h nx Q) (K2 : iw y < iw x → ma_J scr M d kc ks (pc + 3) lv st h nx Q) : ma_J scr M d kc ks pc lv (vi y :: vi x :: st) h nx Q :=
  ma_two (fun _ _ _ _ _ _ _ _ _ _ _ _ _ _ _ _ _ CX k1 k2 => lv_icmp_le CX.1 CX.2.1 hd ht (fun q => k1 (iw_le.mp q)) (fun q => k2 (Int.not_le.mp (fun z => q (iw_le.mpr z))))) K1 K2
theorem ma_rcmp_le {x y off : Int} (tgt : Nat) (hd : decode M.2.1 pc = .ok (.if_icmp .le off, 3)) (ht : (pc : Int) + off = (tgt : Int)) (hx : -2147483648 ≤ x ∧ x ≤ 2147483647) (hy : -2147483648 ≤ y ∧ y ≤ 2147483647) (K1 : x ≤ y → ma_J scr M d kc ks tgt lv st h nx Q) (K2 : y < x → ma_J scr M d kc ks (pc + 3) lv st h nx Q) : ma_J scr M d kc ks pc lv (vi y :: vi x :: st) h nx Q :=
  ma_icmp_le tgt hd ht (fun q => K1 (by rw [iw_of hx.1 hx.2, iw_of hy.1 hy.2] at q; exact q)) (fun q => K2 (by rw [iw_of hx.1 hx.2, iw_of hy.1 hy.2] at q; exact q))
theorem ma_if_le {x off : Int} (tgt : Nat) (hd : decode M.2.1 pc = .ok (.ifCond .le off, 3)) (ht : (pc : Int) + off = (tgt : Int)) (K1 : iw x ≤ 0 → ma_J scr M d kc ks tgt lv st h nx Q) (K2 : 0 < iw x → ma_J scr M d kc ks (pc + 3) lv st h nx Q) : ma_J scr M d kc ks pc lv (vi x :: st) h nx Q :=
  ma_two (fun _ _ _ _ _ _ _ _ _ _ _ _ _ _ _ _ _ CX k1 k2 => lv_if_le CX.1 CX.2.1 hd ht (fun q => k1 (by have z := (@iw_le x 0).mp q; rw [iw_0] at z; exact z)) (fun q => k2 (Int.not_le.mp (fun z => q ((@iw_le x 0).mpr (by rw [iw_0]; exact z)))))) K1 K2
theorem ma_rif_le {x off : Int} (tgt : Nat) (hd : decode M.2.1 pc = .ok (.ifCond .le off, 3)) (ht : (pc : Int) + off = (tgt : Int)) (hx : -2147483648 ≤ x ∧ x ≤ 2147483647) (K1 : x ≤ 0 → ma_J scr M d kc ks tgt lv st h nx Q) (K2 : 0 < x → ma_J scr M d kc ks (pc + 3) lv st h nx Q) : ma_J scr M d kc ks pc lv (vi x :: st) h nx Q :=
  ma_if_le tgt hd ht (fun q => K1 (by rw [iw_of hx.1 hx.2] at q; exact q)) (fun q => K2 (by rw [iw_of hx.1 hx.2] at q; exact q))
end MAR
