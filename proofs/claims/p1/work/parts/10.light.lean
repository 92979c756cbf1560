/-! THE LIGHT WORLD. Values: an int, a long (both any whole number that stands for its rest), a reference by its place (none: null).
Cells: arrays of numbers (kind 0 int, 1 long, 2 byte, 3 boolean; length; contents), objects (class by its place in vwCl; fields), arrays of references.
Places below 1000000 lie in the world, in the order in which they were made; 1000000 + j are the static tables, 2000000 is the script. -/
abbrev ma_V : Type := Int ⊕ (Int ⊕ Option Nat)
abbrev ma_C : Type := (Nat × Nat × (Int → Int)) ⊕ ((Nat × List ma_V) ⊕ (Nat × (Int → Option Nat)))
abbrev ma_H : Type := Nat → ma_C
abbrev ma_M : Type := MethodName × ByteArray × Nat × Option FieldType
abbrev vi (a : Int) : ma_V := .inl a
abbrev vl (a : Int) : ma_V := .inr (.inl a)
abbrev vr (k : Nat) : ma_V := .inr (.inr (some k))
abbrev vz : ma_V := .inr (.inr none)
abbrev ci (n : Nat) (f : Int → Int) : ma_C := .inl (0, n, f)
abbrev cl (n : Nat) (f : Int → Int) : ma_C := .inl (1, n, f)
abbrev cb (n : Nat) (f : Int → Int) : ma_C := .inl (2, n, f)
abbrev cz (n : Nat) (f : Int → Int) : ma_C := .inl (3, n, f)
abbrev co (k : Nat) (fs : List ma_V) : ma_C := .inr (.inl (k, fs))
abbrev cq (n : Nat) (f : Int → Option Nat) : ma_C := .inr (.inr (n, f))
def ma_vd : ma_C := .inr (.inr (0, fun _ => none))
def ma_lv : ma_C → Bool
  | .inr (.inr (0, _)) => false
  | _ => true
def ma_up (h : ma_H) (k : Nat) (c : ma_C) : ma_H := fun j => if j = k then c else h j
def uf {α : Type} (f : Int → α) (k : Int) (x : α) : Int → α := fun j => if j = k then x else f j
theorem ma_up_s (h : ma_H) (k : Nat) (c : ma_C) : ma_up h k c k = c := if_pos rfl
theorem ma_up_n {h : ma_H} {k j : Nat} {c : ma_C} (e : j ≠ k) : ma_up h k c j = h j := if_neg e
theorem uf_s {α : Type} (f : Int → α) (k : Int) (x : α) : uf f k x k = x := if_pos rfl
theorem uf_n {α : Type} {f : Int → α} {k j : Int} {x : α} (e : j ≠ k) : uf f k x j = f j := if_neg e
def ma_rv (ad : Nat → Nat) : ma_V → Value
  | .inl a => .int (Int32.ofInt a)
  | .inr (.inl b) => .long (Int64.ofInt b)
  | .inr (.inr none) => .null
  | .inr (.inr (some k)) => .ref (ad k)
def ma_re (cT : Nat → ClassId) (ad : Nat → Nat) : ma_C → va_E
  | .inl (t, n, f) => .inl (cT t, n, if t = 1 then .inr (.inl (fun j => Int64.ofInt (f j))) else .inl (fun j => Int32.ofInt (f j)))
  | .inr (.inl (k, fs)) => .inr (k, fs.map (ma_rv ad))
  | .inr (.inr (n, f)) => .inl (cT 4, n, .inr (.inr (.inr (.inr (fun j => (f j).map ad)))))
/-- a whole number as an int, as a long -/
def iw (a : Int) : Int := (Int32.ofInt a).toInt
def jw (a : Int) : Int := (Int64.ofInt a).toInt
theorem iw_of {a : Int} (h1 : -2147483648 ≤ a) (h2 : a ≤ 2147483647) : iw a = a := by
  unfold iw
  rw [Int32.toInt_ofInt]
  show Int.bmod a 4294967296 = a
  exact Int.bmod_eq_of_le (by omega) (by omega)
theorem jw_of {a : Int} (h1 : -9223372036854775808 ≤ a) (h2 : a ≤ 9223372036854775807) : jw a = a := by
  unfold jw
  rw [Int64.toInt_ofInt]
  show Int.bmod a 18446744073709551616 = a
  exact Int.bmod_eq_of_le (by omega) (by omega)
theorem iw_in (a : Int) : -2147483648 ≤ iw a ∧ iw a ≤ 2147483647 := by
  unfold iw
  have h1 := Int32.le_toInt (Int32.ofInt a)
  have h2 := Int32.toInt_lt (Int32.ofInt a)
  omega
theorem jw_in (a : Int) : -9223372036854775808 ≤ jw a ∧ jw a ≤ 9223372036854775807 := by
  unfold jw
  have h1 := Int64.le_toInt (Int64.ofInt a)
  have h2 := Int64.toInt_lt (Int64.ofInt a)
  omega
theorem iw_id (a : Int) : Int32.ofInt (iw a) = Int32.ofInt a := Int32.ofInt_toInt _
theorem jw_id (a : Int) : Int64.ofInt (jw a) = Int64.ofInt a := Int64.ofInt_toInt _
theorem iw_eq {a b : Int} : Int32.ofInt a = Int32.ofInt b ↔ iw a = iw b := ⟨fun h => by unfold iw; rw [h], fun h => Int32.toInt_inj.mp h⟩
theorem jw_eq {a b : Int} : Int64.ofInt a = Int64.ofInt b ↔ jw a = jw b := ⟨fun h => by unfold jw; rw [h], fun h => Int64.toInt_inj.mp h⟩
theorem iw_lt {a b : Int} : Int32.ofInt a < Int32.ofInt b ↔ iw a < iw b := Int32.lt_iff_toInt_lt
theorem iw_le {a b : Int} : Int32.ofInt a ≤ Int32.ofInt b ↔ iw a ≤ iw b := Int32.le_iff_toInt_le
theorem jw_lt {a b : Int} : Int64.ofInt a < Int64.ofInt b ↔ jw a < jw b := Int64.lt_iff_toInt_lt
theorem jw_le {a b : Int} : Int64.ofInt a ≤ Int64.ofInt b ↔ jw a ≤ jw b := Int64.le_iff_toInt_le
theorem iw_div (a b : Int) : Int32.ofInt (Int.tdiv (iw a) (iw b)) = Int32.ofInt a / Int32.ofInt b := by
  apply Int32.toInt_inj.mp
  rw [Int32.toInt_div, Int32.toInt_ofInt]
  rfl
theorem jw_div (a b : Int) : Int64.ofInt (Int.tdiv (jw a) (jw b)) = Int64.ofInt a / Int64.ofInt b := by
  apply Int64.toInt_inj.mp
  rw [Int64.toInt_div, Int64.toInt_ofInt]
  rfl
theorem iw_rem (a b : Int) : Int32.ofInt (Int.tmod (iw a) (iw b)) = Int32.ofInt a - Int32.ofInt a / Int32.ofInt b * Int32.ofInt b := by
  rw [Int.tmod_def, Int32.ofInt_sub, Int32.ofInt_mul, iw_div, iw_id, iw_id, Int32.mul_comm]
theorem jw_rem (a b : Int) : Int64.ofInt (Int.tmod (jw a) (jw b)) = Int64.ofInt a - Int64.ofInt a / Int64.ofInt b * Int64.ofInt b := by
  rw [Int.tmod_def, Int64.ofInt_sub, Int64.ofInt_mul, jw_div, jw_id, jw_id, Int64.mul_comm]
/-- bits, as the machine has them -/
def bi_and (a b : Int) : Int := (Int32.ofInt a &&& Int32.ofInt b).toInt
def bi_or (a b : Int) : Int := (Int32.ofInt a ||| Int32.ofInt b).toInt
def bi_xor (a b : Int) : Int := (Int32.ofInt a ^^^ Int32.ofInt b).toInt
def bi_shl (a b : Int) : Int := (Int32.ofInt a <<< (Int32.ofInt b &&& 31)).toInt
def bi_shr (a b : Int) : Int := (Int32.ofInt a >>> (Int32.ofInt b &&& 31)).toInt
def bi_ushr (a b : Int) : Int := (((Int32.ofInt a).toUInt32 >>> ((Int32.ofInt b).toUInt32 &&& Int32.toUInt32 31)).toInt32).toInt
def bi_b (a : Int) : Int := (Int32.ofInt a).toInt8.toInt32.toInt
def bi_s (a : Int) : Int := (Int32.ofInt a).toInt16.toInt32.toInt
def bi_nb (a : Int) : Int := (vp_nar .byte (Int32.ofInt a)).toInt
def bi_nz (a : Int) : Int := (vp_nar .boolean (Int32.ofInt a)).toInt
/-- the static tables -/
def ma_tb : Nat → List Int
  | 1 => [0, 1, 2, 4, 3, 5, 6, 7, 12, 18, 13, 19, 8, 10, 14, 20, 16, 22, 9, 11, 15, 21, 17, 23]
  | 2 => [0, 1, 1, 0, 0, 1, 1, 0, 0, 1, 1, 0, 0, 1, 1, 0, 0, 1, 1, 0, 0, 1, 1, 0]
  | 3 => [0, 6, 14, 21, 6, 0, 2, 5, 14, 2, 0, 1, 21, 5, 1, 0]
  | 4 => [0, 1, 2, 3, 4, 5, 6, 7, 8, 9, 10, 11, 12, 13, 14, 15, 16, 17, 18, 19, 20, 21, 22, 23, 1, 0, 4, 5, 2, 3, 7, 6, 10, 11, 8, 9, 18, 19, 20, 21, 22, 23, 12, 13, 14, 15, 16, 17, 2, 3, 0, 1, 5, 4, 12, 13, 14, 15, 16, 17, 6, 7, 8, 9, 10, 11, 19, 18, 22, 23, 20, 21, 3, 2, 5, 4, 0, 1, 13, 12, 16, 17, 14, 15, 19, 18, 22, 23, 20, 21, 6, 7, 8, 9, 10, 11, 4, 5, 1, 0, 3, 2, 18, 19, 20, 21, 22, 23, 7, 6, 10, 11, 8, 9, 13, 12, 16, 17, 14, 15, 5, 4, 3, 2, 1, 0, 19, 18, 22, 23, 20, 21, 13, 12, 16, 17, 14, 15, 7, 6, 10, 11, 8, 9, 6, 7, 8, 9, 10, 11, 0, 1, 2, 3, 4, 5, 14, 15, 12, 13, 17, 16, 20, 21, 18, 19, 23, 22, 7, 6, 10, 11, 8, 9, 1, 0, 4, 5, 2, 3, 20, 21, 18, 19, 23, 22, 14, 15, 12, 13, 17, 16, 8, 9, 6, 7, 11, 10, 14, 15, 12, 13, 17, 16, 0, 1, 2, 3, 4, 5, 21, 20, 23, 22, 18, 19, 9, 8, 11, 10, 6, 7, 15, 14, 17, 16, 12, 13, 21, 20, 23, 22, 18, 19, 0, 1, 2, 3, 4, 5, 10, 11, 7, 6, 9, 8, 20, 21, 18, 19, 23, 22, 1, 0, 4, 5, 2, 3, 15, 14, 17, 16, 12, 13, 11, 10, 9, 8, 7, 6, 21, 20, 23, 22, 18, 19, 15, 14, 17, 16, 12, 13, 1, 0, 4, 5, 2, 3, 12, 13, 14, 15, 16, 17, 2, 3, 0, 1, 5, 4, 8, 9, 6, 7, 11, 10, 22, 23, 19, 18, 21, 20, 13, 12, 16, 17, 14, 15, 3, 2, 5, 4, 0, 1, 22, 23, 19, 18, 21, 20, 8, 9, 6, 7, 11, 10, 14, 15, 12, 13, 17, 16, 8, 9, 6, 7, 11, 10, 2, 3, 0, 1, 5, 4, 23, 22, 21, 20, 19, 18, 15, 14, 17, 16, 12, 13, 9, 8, 11, 10, 6, 7, 23, 22, 21, 20, 19, 18, 2, 3, 0, 1, 5, 4, 16, 17, 13, 12, 15, 14, 22, 23, 19, 18, 21, 20, 3, 2, 5, 4, 0, 1, 9, 8, 11, 10, 6, 7, 17, 16, 15, 14, 13, 12, 23, 22, 21, 20, 19, 18, 9, 8, 11, 10, 6, 7, 3, 2, 5, 4, 0, 1, 18, 19, 20, 21, 22, 23, 4, 5, 1, 0, 3, 2, 10, 11, 7, 6, 9, 8, 16, 17, 13, 12, 15, 14, 19, 18, 22, 23, 20, 21, 5, 4, 3, 2, 1, 0, 16, 17, 13, 12, 15, 14, 10, 11, 7, 6, 9, 8, 20, 21, 18, 19, 23, 22, 10, 11, 7, 6, 9, 8, 4, 5, 1, 0, 3, 2, 17, 16, 15, 14, 13, 12, 21, 20, 23, 22, 18, 19, 11, 10, 9, 8, 7, 6, 17, 16, 15, 14, 13, 12, 4, 5, 1, 0, 3, 2, 22, 23, 19, 18, 21, 20, 16, 17, 13, 12, 15, 14, 5, 4, 3, 2, 1, 0, 11, 10, 9, 8, 7, 6, 23, 22, 21, 20, 19, 18, 17, 16, 15, 14, 13, 12, 11, 10, 9, 8, 7, 6, 5, 4, 3, 2, 1, 0]
  | _ => [0, 1, 2, 3, 0, 1, 3, 2, 0, 2, 1, 3, 0, 2, 3, 1, 0, 3, 1, 2, 0, 3, 2, 1, 1, 0, 2, 3, 1, 0, 3, 2, 1, 2, 0, 3, 1, 2, 3, 0, 1, 3, 0, 2, 1, 3, 2, 0, 2, 0, 1, 3, 2, 0, 3, 1, 2, 1, 0, 3, 2, 1, 3, 0, 2, 3, 0, 1, 2, 3, 1, 0, 3, 0, 1, 2, 3, 0, 2, 1, 3, 1, 0, 2, 3, 1, 2, 0, 3, 2, 0, 1, 3, 2, 1, 0]
def ma_tf (j : Nat) (i : Int) : Int := (ma_tb j).getD i.toNat 0
def ma_rc (j : Nat) : String := if j = 5 then RX12 else RX11
def ma_rn : Nat → String
  | 0 => "IMAGE"
  | 1 => "INVERSE"
  | 2 => "ODD"
  | 3 => "SWAP"
  | 4 => "AFTER"
  | _ => "P"
def ma_ty (cT : Nat → ClassId) : List (ClassId × FieldType) := [(cT 0, .int), (cT 1, .long), (cT 2, .byte), (cT 3, .boolean), (cT 4, .object "GluedSolids$Solid")]
def ma_gt : List Cond := lw_tbl.filter goodWord
/-- the heap holds the light world h, of nx cells made so far (1000000: no more are made) -/
def ma_HP (D : va_G) (cT : Nat → ClassId) (ad : Nat → Nat) (base nx : Nat) (h : ma_H) (A : Nat → Prop) (H : Heap) : Prop :=
  (nx < 1000000 → H.size = base + nx) ∧ ∀ k, ma_lv (h k) = true → k < nx ∧ k < 1000000 ∧ A (ad k) ∧ va_at D vwCl (ad k, ma_re cT ad (h k)) H
def ma_isN : Cond → Bool
  | .fieldLinkNest _ _ _ _ _ _ => true
  | .methodLinkNest _ _ _ _ => true
  | _ => false
/-- what holds of a method's own start, and stays -/
def ma_SP (D : va_G) (cT : Nat → ClassId) (ad : Nat → Nat) (base : Nat) (A : Nat → Prop) (s : State) (scr : Option (Nat × (Int → Int))) : Prop :=
  (∀ k, k < 1000000 → ad k = base + k) ∧ va_K D vwCl (ma_ty cT) s ∧
  (∀ j, j < 6 → va_Z (ma_rc j) (ma_rn j) "[I" (.ref (ad (1000000 + j))) A s s.heap ∧ va_T .int (ad (1000000 + j)) (ma_tb j).length (fun i => .int (Int32.ofInt (ma_tf j i))) A s s.heap) ∧
  (∀ w ∈ lw_tbl, ma_isN w = true → va_Nw w s) ∧ va_AO "GluedSolids$Solid" s ∧ vx_Zq Bundle.tN "UNASSIGNED_STACK" Bundle.steD A s s.heap ∧ vx_Zq Bundle.tN "SUPPRESSED_SENTINEL" Bundle.listD A s s.heap ∧
  ∀ L xs, scr = some (L, xs) → va_T .int (ad 2000000) L (fun i => .int (Int32.ofInt (xs i))) A s s.heap
def ma_CX (M : ma_M) (p : Program) (l : Launch) (s : State) (m : MethodId) (args : Array Value) (meth : Method) (c : Code) : Prop :=
  p.tables.exec = Jvm.exec ∧ c.code = M.2.1 ∧ meth.sig.returnType = M.2.2.2 ∧ c.maxLocals = M.2.2.1 ∧ s.vm.findClass M.1.cls = some m.cls ∧ meth.locks = false ∧ (∀ w ∈ ma_gt, w.before args s = true) ∧ (M.1.name = "<init>" → meth.name = "<init>") ∧ l.flags = flags0
/-- the locals: by their numbers -/
def ma_L (ad : Nat → Nat) (ls : Array Slot) (n : Nat) (lv : List (Option ma_V)) : Prop := ls.size = n ∧ lv_wf ls ∧ ∀ (i : Nat) (v : ma_V), lv[i]? = some (some v) → ls[i]? = some (.val (ma_rv ad v))
/-- a return at pc, of r -/
def ma_rt (M : ma_M) (pc : Nat) (r : Option ma_V) : Prop :=
  (decode M.2.1 pc = .ok (.return_, 1) ∧ M.2.2.2 = none ∧ r = none) ∨ (∃ x, decode M.2.1 pc = .ok (.ireturn, 1) ∧ (M.2.2.2 = some .int ∨ M.2.2.2 = some .boolean ∧ (x = 0 ∨ x = 1)) ∧ r = some (.inl x)) ∨ (∃ x, decode M.2.1 pc = .ok (.lreturn, 1) ∧ M.2.2.2 = some .long ∧ r = some (.inr (.inl x)))
/-- THE LIGHT JUDGEMENT: method M, at pc with locals lv, operand stack st, world h of nx cells, comes to its return with Q; d frames below it, kc cells of ks slots may be made -/
def ma_J (scr : Option (Nat × (Int → Int))) (M : ma_M) (d kc ks pc : Nat) (lv : List (Option ma_V)) (st : List ma_V) (h : ma_H) (nx : Nat) (Q : Option ma_V → ma_H → Nat → Prop) : Prop :=
  ∀ (p : Program) (l : Launch) (e : Env) (R : Room) (s : State) (m : MethodId) (args : Array Value) (below : List Frame) (meth : Method) (c : Code) (D : va_G) (cT : Nat → ClassId) (A : Nat → Prop) (ad : Nat → Nat) (base : Nat) (H : Heap) (locs : List Loc) (cells slots : Nat) (ls : Array Slot) (Z : State → Prop),
    ma_CX M p l s m args meth c → (∀ q, s.heap.size ≤ q → A q) → ma_SP D cT ad base A s scr → ma_HP D cT ad base nx h A H → va_S A s.heap H locs → ma_L ad ls M.2.2.1 lv → d ≤ R.frames → 42 * d ≤ R.locals → cells + kc ≤ R.cells → slots + ks ≤ R.slots →
    (∀ (r : Option ma_V) (h' : ma_H) (nx' : Nat) (H' : Heap) (locs' : List Loc) (cells' slots' pc' : Nat) (ls' : Array Slot), Q r h' nx' → ma_HP D cT ad base nx' h' A H' → va_S A s.heap H' locs' → cells' ≤ R.cells → slots' ≤ R.slots → ma_rt M pc' r →
      W p l e R s m args below meth c H' locs' cells' slots' Z (F0 m pc' ls' (r.toList.map (ma_rv ad)))) →
    W p l e R s m args below meth c H locs cells slots Z (F0 m pc ls (st.map (ma_rv ad)))
