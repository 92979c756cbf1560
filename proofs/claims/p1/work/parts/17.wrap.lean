/-- the slot ahead holds no long -/
def ma_nl1 (lv : List (Option ma_V)) (j : Nat) : Bool := match lv[j]? with
  | some (some (.inr (.inl _))) => false
  | _ => true
def ma_nol (lv : List (Option ma_V)) : Nat → Bool
  | 0 => true
  | j + 1 => ma_nl1 lv j
theorem ma_nol_k {lv : List (Option ma_V)} {i : Nat} (h : ma_nol lv i = true) : ma_kill lv i = lv := by
  cases i with
  | zero => rfl
  | succ j =>
    show ma_k1 lv j = lv
    unfold ma_k1
    split
    · rename_i b hb
      replace h : ma_nl1 lv j = true := h
      unfold ma_nl1 at h
      rw [hb] at h
      cases h
    · rfl
section MAW
variable {scr : Option (Nat × (Int → Int))} {M : ma_M} {d kc ks pc : Nat} {lv : List (Option ma_V)} {st : List ma_V} {h : ma_H} {nx : Nat} {Q : Option ma_V → ma_H → Nat → Prop}
theorem ma_puti {idx a ci k : Nat} {fs : List ma_V} {x : Int} (hd : decode M.2.1 pc = .ok (.putfield idx, 3)) (hl : ma_FL M.1.cls idx ci k false false) (ha : h a = co ci fs) (hk2 : k < fs.length) (K : ma_J scr M d kc ks (pc + 3) lv st (ma_up h a (co ci (fs.set k (vi x)))) nx Q) : ma_J scr M d kc ks pc lv (vi x :: vr a :: st) h nx Q :=
  ma_putf hd hl ha hk2 (by rw [if_neg (by decide)]; exact ⟨x, rfl⟩) K
theorem ma_putr {idx a ci k : Nat} {fs : List ma_V} {r : Option Nat} (hd : decode M.2.1 pc = .ok (.putfield idx, 3)) (hl : ma_FL M.1.cls idx ci k false true) (ha : h a = co ci fs) (hk2 : k < fs.length) (K : ma_J scr M d kc ks (pc + 3) lv st (ma_up h a (co ci (fs.set k (.inr (.inr r))))) nx Q) : ma_J scr M d kc ks pc lv (.inr (.inr r) :: vr a :: st) h nx Q :=
  ma_putf hd hl ha hk2 (by rw [if_pos rfl]; exact ⟨r, rfl⟩) K
theorem ma_putFr {idx a ci k : Nat} {fs : List ma_V} {r : Option Nat} (hd : decode M.2.1 pc = .ok (.putfield idx, 3)) (hl : ma_FL M.1.cls idx ci k true true) (hini : M.1.name = "<init>") (hown2 : ∃ T N, vwCl[ci]? = some (M.1.cls, T, N)) (ha : h a = co ci fs) (hk2 : k < fs.length) (K : ma_J scr M d kc ks (pc + 3) lv st (ma_up h a (co ci (fs.set k (.inr (.inr r))))) nx Q) : ma_J scr M d kc ks pc lv (.inr (.inr r) :: vr a :: st) h nx Q :=
  ma_putF hd hl hini hown2 ha hk2 (by rw [if_pos rfl]; exact ⟨r, rfl⟩) K
/-- calls of methods that make nothing -/
theorem ma_cS {idx : Nat} {M' : ma_M} (av : List ma_V) (hd : decode M.2.1 pc = .ok (.invokestatic idx, 3)) (hw : ma_MW M' av.length) (hl : Cond.methodLink M.1.cls idx M'.1 ∈ ma_gt) (hs : Cond.static M'.1 ∈ ma_gt) (hwd : ma_wd st ≤ 8) (hC : ma_Ct M' d 0 0 av h nx (fun r h' nx' => ma_J scr M (d + 1) kc ks (pc + 3) lv (r.toList ++ st) h' nx' Q)) : ma_J scr M (d + 1) kc ks pc lv (av.reverse ++ st) h nx Q :=
  ma_callS (mc := 0) (ms := 0) av hd hw hl hs (Nat.le_refl _) hwd hC
theorem ma_cV {idx b ci N : Nat} {M' : ma_M} {T : u_T} {fs : List ma_V} (av : List ma_V) (hd : decode M.2.1 pc = .ok (.invokevirtual idx, 3)) (hw : ma_MW M' av.length) (hl : Cond.methodLink M.1.cls idx M'.1 ∈ ma_gt) (hi : Cond.instanceMethod M'.1 ∈ ma_gt) (hse : Cond.selects M'.1.cls M'.1 M'.1 ∈ ma_gt) (hcl : vwCl[ci]? = some (M'.1.cls, T, N)) (hb : h b = co ci fs) (hwd : ma_wd st ≤ 8) (hC : ma_Ct M' d 0 0 (vr b :: av) h nx (fun r h' nx' => ma_J scr M (d + 1) kc ks (pc + 3) lv (r.toList ++ st) h' nx' Q)) : ma_J scr M (d + 1) kc ks pc lv (av.reverse ++ vr b :: st) h nx Q :=
  ma_callV (mc := 0) (ms := 0) av hd hw hl hi hse hcl hb (Nat.le_refl _) hwd hC
theorem ma_istore_nN {k : Fin 4} {x : Int} (hd : decode M.2.1 pc = .ok (.istore_n k, 1)) (hn : (k : Nat) < M.2.2.1) (hk : ma_nol lv (k : Nat) = true) (K : ma_J scr M d kc ks (pc + 1) (lv.set (k : Nat) (some (vi x))) st h nx Q) : ma_J scr M d kc ks pc lv (vi x :: st) h nx Q :=
  ma_istore_n hd hn (by unfold ma_st1; rw [ma_nol_k hk]; exact K)
theorem ma_istoreN {i : Nat} {x : Int} (hd : decode M.2.1 pc = .ok (.istore i, 2)) (hn : i < M.2.2.1) (hk : ma_nol lv i = true) (K : ma_J scr M d kc ks (pc + 2) (lv.set i (some (vi x))) st h nx Q) : ma_J scr M d kc ks pc lv (vi x :: st) h nx Q :=
  ma_istore hd hn (by unfold ma_st1; rw [ma_nol_k hk]; exact K)
theorem ma_astore_nN {k : Fin 4} {x : Nat} (hd : decode M.2.1 pc = .ok (.astore_n k, 1)) (hn : (k : Nat) < M.2.2.1) (hk : ma_nol lv (k : Nat) = true) (K : ma_J scr M d kc ks (pc + 1) (lv.set (k : Nat) (some (vr x))) st h nx Q) : ma_J scr M d kc ks pc lv (vr x :: st) h nx Q :=
  ma_astore_n hd hn (by unfold ma_st1; rw [ma_nol_k hk]; exact K)
theorem ma_astoreN {i : Nat} {x : Nat} (hd : decode M.2.1 pc = .ok (.astore i, 2)) (hn : i < M.2.2.1) (hk : ma_nol lv i = true) (K : ma_J scr M d kc ks (pc + 2) (lv.set i (some (vr x))) st h nx Q) : ma_J scr M d kc ks pc lv (vr x :: st) h nx Q :=
  ma_astore hd hn (by unfold ma_st1; rw [ma_nol_k hk]; exact K)
theorem ma_lstore_nN {k : Fin 4} {x : Int} (hd : decode M.2.1 pc = .ok (.lstore_n k, 1)) (hn : (k : Nat) + 1 < M.2.2.1) (hk : ma_nol lv (k : Nat) = true) (K : ma_J scr M d kc ks (pc + 1) ((lv.set (k : Nat) (some (vl x))).set ((k : Nat) + 1) none) st h nx Q) : ma_J scr M d kc ks pc lv (vl x :: st) h nx Q :=
  ma_lstore_n hd hn (by unfold ma_st2; rw [ma_nol_k hk]; exact K)
theorem ma_lstoreN {i : Nat} {x : Int} (hd : decode M.2.1 pc = .ok (.lstore i, 2)) (hn : i + 1 < M.2.2.1) (hk : ma_nol lv i = true) (K : ma_J scr M d kc ks (pc + 2) ((lv.set i (some (vl x))).set (i + 1) none) st h nx Q) : ma_J scr M d kc ks pc lv (vl x :: st) h nx Q :=
  ma_lstore hd hn (by unfold ma_st2; rw [ma_nol_k hk]; exact K)
theorem ma_iincN {i : Nat} {n x : Int} (hd : decode M.2.1 pc = .ok (.iinc i n, 3)) (hl : lv[i]? = some (some (vi x))) (hn : i < M.2.2.1) (hk : ma_nol lv i = true) (K : ma_J scr M d kc ks (pc + 3) (lv.set i (some (vi (x + n)))) st h nx Q) : ma_J scr M d kc ks pc lv st h nx Q :=
  ma_iinc hd hl hn (by unfold ma_st1; rw [ma_nol_k hk]; exact K)
end MAW
