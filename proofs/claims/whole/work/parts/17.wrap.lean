section MAW
variable {scr : Option (Nat × (Int → Int))} {M : ma_M} {d kc ks pc : Nat} {lv : List (Option ma_V)} {st : List ma_V} {h : ma_H} {nx : Nat} {Q : Option ma_V → ma_H → Nat → Prop}
theorem ma_puti {idx a ci k : Nat} {fs : List ma_V} {x : Int} (hd : decode M.2.1 pc = .ok (.putfield idx, 3)) (hl : ma_FL M.1.cls idx ci k false false) (ha : h a = co ci fs) (hk2 : k < fs.length) (K : ma_J scr M d kc ks (pc + 3) lv st (ma_up h a (co ci (fs.set k (vi x)))) nx Q) : ma_J scr M d kc ks pc lv (vi x :: vr a :: st) h nx Q :=
  ma_putf hd hl ha hk2 (by rw [if_neg (by decide)]; exact ⟨x, rfl⟩) K
theorem ma_putr {idx a ci k : Nat} {fs : List ma_V} {r : Option Nat} (hd : decode M.2.1 pc = .ok (.putfield idx, 3)) (hl : ma_FL M.1.cls idx ci k false true) (ha : h a = co ci fs) (hk2 : k < fs.length) (K : ma_J scr M d kc ks (pc + 3) lv st (ma_up h a (co ci (fs.set k (.inr (.inr r))))) nx Q) : ma_J scr M d kc ks pc lv (.inr (.inr r) :: vr a :: st) h nx Q :=
  ma_putf hd hl ha hk2 (by rw [if_pos rfl]; exact ⟨r, rfl⟩) K
theorem ma_putFr {idx a ci k : Nat} {fs : List ma_V} {r : Option Nat} (hd : decode M.2.1 pc = .ok (.putfield idx, 3)) (hl : ma_FL M.1.cls idx ci k true true) (hini : M.1.name = "<init>") (hown2 : ∃ T N, vwCl[ci]? = some (M.1.cls, T, N)) (ha : h a = co ci fs) (hk2 : k < fs.length) (K : ma_J scr M d kc ks (pc + 3) lv st (ma_up h a (co ci (fs.set k (.inr (.inr r))))) nx Q) : ma_J scr M d kc ks pc lv (.inr (.inr r) :: vr a :: st) h nx Q :=
  ma_putF hd hl hini hown2 ha hk2 (by rw [if_pos rfl]; exact ⟨r, rfl⟩) K
/-- calls of methods that make nothing -/
theorem ma_cS {idx : Nat} {M' : ma_M} (av : List ma_V) (hd : decode M.2.1 pc = .ok (.invokestatic idx, 3)) (hw : ma_MW M' av.length) (hl : Cond.methodLink M.1.cls idx M'.1 ∈ ma_gt) (hs : Cond.static M'.1 ∈ ma_gt) (hwd : ma_wd st ≤ 8) (hC : ma_Ct M' d 0 0 av h nx (fun r h' nx' => ma_J scr M (d + 1) kc ks (pc + 3) lv (r.toList ++ st) h' nx' Q)) : ma_J scr M (d + 1) kc ks pc lv (av.reverse ++ st) h nx Q :=
  ma_callS (mc := 0) (ms := 0) av hd hw hl hs (Nat.le_refl _) hwd hC
theorem ma_cV {idx b ci N : Nat} {M' : ma_M} {T : u_T} {fs : List ma_V} (av : List ma_V) (hd : decode M.2.1 pc = .ok (.invokevirtual idx, 3)) (hw : ma_MW M' av.length) (hl : Cond.methodLink M.1.cls idx M'.1 ∈ ma_gt) (hi : Cond.instanceMethod M'.1 ∈ ma_gt) (hse : Cond.selects M'.1.cls M'.1 M'.1 ∈ ma_gt) (hcl : vwCl[ci]? = some (M'.1.cls, T, N)) (hb : h b = co ci fs) (hwd : ma_wd st ≤ 8) (hC : ma_Ct M' d 0 0 (vr b :: av) h nx (fun r h' nx' => ma_J scr M (d + 1) kc ks (pc + 3) lv (r.toList ++ st) h' nx' Q)) : ma_J scr M (d + 1) kc ks pc lv (av.reverse ++ vr b :: st) h nx Q :=
  ma_callV (mc := 0) (ms := 0) av hd hw hl hi hse hcl hb (Nat.le_refl _) hwd hC
end MAW
