theorem ml_in {k : Nat} (h : 0 < mlen k) : k = 78 ∨ k = 79 ∨ k = 80 ∨ k = 81 ∨ k = 82 ∨ k = 83 ∨ k = 84 ∨ k = 86 ∨ k = 87 ∨ k = 92 ∨ k = 93 ∨ k = 94 ∨ k = 95 ∨ k = 96 ∨ k = 97 ∨ k = 98 := by
  unfold mlen at h
  split at h <;> simp_all
theorem ih1_lo {g : ma_H} {k : Nat} (hk : k < 73) : ih1 g k = g k := by
  unfold ih1
  repeat rw [ma_up_n (by omega)]
abbrev hA0 (g : ma_H) (f A : Int → Int) : ma_H := ma_up (ma_up (ma_up (ih1 (ih0 g)) 77 (ci 64 f)) 74 (ci 33 A)) 111 (cl 1 (fun _ => 0))
theorem lwf_c {g : ma_H} {f A : Int → Int} : FRC (hA0 g f A) := ⟨g, fun k hk => by
  show ma_up _ 111 _ k = _
  rw [ma_up_n (by omega), ma_up_n (by omega), ma_up_n (by omega), ih1_lo hk]⟩
theorem lwf_m {g : ma_H} {f A : Int → Int} (hf : PB f) (a0 : A 0 = 1) (a1 : ∀ j, 0 ≤ j → j < 32 → A (1 + j) = -1) : FMD (hA0 g f A) := by
  refine ⟨rfl, ⟨fun k hk => ?_, f, rfl, hf⟩, ⟨A, rfl, a0, fun j j0 j1 => (a1 j j0 j1).trans rfl⟩, rfl, rfl, rfl, rfl, rfl, rfl, rfl, rfl, rfl, rfl, rfl, rfl, rfl, rfl, rfl, rfl, rfl, rfl, rfl⟩
  rcases ml_in hk with rfl | rfl | rfl | rfl | rfl | rfl | rfl | rfl | rfl | rfl | rfl | rfl | rfl | rfl | rfl | rfl
  · exact ⟨_, rfl⟩
  · exact ⟨_, rfl⟩
  · exact ⟨_, rfl⟩
  · exact ⟨_, rfl⟩
  · exact ⟨_, rfl⟩
  · exact ⟨_, rfl⟩
  · exact ⟨_, rfl⟩
  · exact ⟨_, rfl⟩
  · exact ⟨_, rfl⟩
  · exact ⟨_, rfl⟩
  · exact ⟨_, rfl⟩
  · exact ⟨_, rfl⟩
  · exact ⟨_, rfl⟩
  · exact ⟨_, rfl⟩
  · exact ⟨_, rfl⟩
  · exact ⟨_, rfl⟩
set_option maxHeartbeats 2000000 in
theorem lw_32 {L : Nat} {S : Int → Int} {h : ma_H} {kc ks : Nat} (hL : 5 ≤ L ∧ L < 10) (hS : ∀ i, rg (S i)) (FH : FRC h) (M : FMD h) (K3 : ma_J (some (L, S)) mLw 11 kc ks 255 [some (vr 2000000), some (vr 0), some (vr 73), some (vr 111), some (vi 0), none, none, none] [] h 1000000 (fun r _ _ => r = some (vi 1))) (K34 : ma_J (some (L, S)) mLw 11 kc ks 1073 [some (vr 2000000), some (vr 0), some (vr 73), some (vr 111), some (vi 0), none, none, none] [] h 1000000 (fun r _ _ => r = some (vi 1))) : ma_J (some (L, S)) mLw 11 kc ks 32 [some (vr 2000000), some (vr 0), some (vr 73), some (vr 111), some (vi 0), none, none, none] [] h 1000000 (fun r _ _ => r = some (vi 1)) := by
  refine ma_aload_n dL_law_32 rfl ?_
  refine ma_iload dL_law_33 rfl ?_
  refine ma_sald dL_law_35 (by omega) (by omega) (by omega) ?_
  refine ma_bipush dL_law_36 ?_
  refine ma_kand 6 64 dL_law_38 (by decide) (by decide +kernel) (by decide) ?_
  rcases (show (S 0 % 64 < 0 ∨ 34 < S 0 % 64) ∨ S 0 % 64 = 0 ∨ S 0 % 64 = 1 ∨ S 0 % 64 = 2 ∨ S 0 % 64 = 3 ∨ S 0 % 64 = 4 ∨ S 0 % 64 = 5 ∨ S 0 % 64 = 6 ∨ S 0 % 64 = 7 ∨ S 0 % 64 = 8 ∨ S 0 % 64 = 9 ∨ S 0 % 64 = 10 ∨ S 0 % 64 = 11 ∨ S 0 % 64 = 12 ∨ S 0 % 64 = 13 ∨ S 0 % 64 = 14 ∨ S 0 % 64 = 15 ∨ S 0 % 64 = 16 ∨ S 0 % 64 = 17 ∨ S 0 % 64 = 18 ∨ S 0 % 64 = 19 ∨ S 0 % 64 = 20 ∨ S 0 % 64 = 21 ∨ S 0 % 64 = 22 ∨ S 0 % 64 = 23 ∨ S 0 % 64 = 24 ∨ S 0 % 64 = 25 ∨ S 0 % 64 = 26 ∨ S 0 % 64 = 27 ∨ S 0 % 64 = 28 ∨ S 0 % 64 = 29 ∨ S 0 % 64 = 30 ∨ S 0 % 64 = 31 ∨ S 0 % 64 = 32 ∨ S 0 % 64 = 33 ∨ S 0 % 64 = 34 by omega) with sw39 | sw39 | sw39 | sw39 | sw39 | sw39 | sw39 | sw39 | sw39 | sw39 | sw39 | sw39 | sw39 | sw39 | sw39 | sw39 | sw39 | sw39 | sw39 | sw39 | sw39 | sw39 | sw39 | sw39 | sw39 | sw39 | sw39 | sw39 | sw39 | sw39 | sw39 | sw39 | sw39 | sw39 | sw39 | sw39
  · -- default
    refine ma_tableOut 1128 dL_law_39 (by rw [iw_of (by omega) (by omega)]; omega) rfl ?_
    exact lw_1128 hL
  · -- case 0
    refine ma_tableIn 192 dL_law_39 (by rw [iw_of (by omega) (by omega)]; omega) (by rw [iw_of (by omega) (by omega)]; omega) (by rw [iw_of (by omega) (by omega)]; rw [sw39]; rfl) rfl ?_
    exact lw_sign hL hS FH M
  · -- case 1
    refine ma_tableIn 217 dL_law_39 (by rw [iw_of (by omega) (by omega)]; omega) (by rw [iw_of (by omega) (by omega)]; omega) (by rw [iw_of (by omega) (by omega)]; rw [sw39]; rfl) rfl ?_
    exact lw_end hL hS FH M
  · -- case 2
    refine ma_tableIn 242 dL_law_39 (by rw [iw_of (by omega) (by omega)]; omega) (by rw [iw_of (by omega) (by omega)]; omega) (by rw [iw_of (by omega) (by omega)]; rw [sw39]; rfl) rfl ?_
    exact lw_solid hL hS FH M
  · -- case 3
    refine ma_tableIn 255 dL_law_39 (by rw [iw_of (by omega) (by omega)]; omega) (by rw [iw_of (by omega) (by omega)]; omega) (by rw [iw_of (by omega) (by omega)]; rw [sw39]; rfl) rfl ?_
    exact K3
  · -- case 4
    refine ma_tableIn 335 dL_law_39 (by rw [iw_of (by omega) (by omega)]; omega) (by rw [iw_of (by omega) (by omega)]; omega) (by rw [iw_of (by omega) (by omega)]; rw [sw39]; rfl) rfl ?_
    exact lw_shows hL hS FH M
  · -- case 5
    refine ma_tableIn 348 dL_law_39 (by rw [iw_of (by omega) (by omega)]; omega) (by rw [iw_of (by omega) (by omega)]; omega) (by rw [iw_of (by omega) (by omega)]; rw [sw39]; rfl) rfl ?_
    exact lw_sheet hL hS FH M
  · -- case 6
    refine ma_tableIn 409 dL_law_39 (by rw [iw_of (by omega) (by omega)]; omega) (by rw [iw_of (by omega) (by omega)]; omega) (by rw [iw_of (by omega) (by omega)]; rw [sw39]; rfl) rfl ?_
    exact lw_degree hL hS FH M
  · -- case 7
    refine ma_tableIn 458 dL_law_39 (by rw [iw_of (by omega) (by omega)]; omega) (by rw [iw_of (by omega) (by omega)]; omega) (by rw [iw_of (by omega) (by omega)]; rw [sw39]; rfl) rfl ?_
    exact lw_point hL hS FH M
  · -- case 8
    refine ma_tableIn 495 dL_law_39 (by rw [iw_of (by omega) (by omega)]; omega) (by rw [iw_of (by omega) (by omega)]; omega) (by rw [iw_of (by omega) (by omega)]; rw [sw39]; rfl) rfl ?_
    exact lw_edges hL hS FH M
  · -- case 9
    refine ma_tableIn 508 dL_law_39 (by rw [iw_of (by omega) (by omega)]; omega) (by rw [iw_of (by omega) (by omega)]; omega) (by rw [iw_of (by omega) (by omega)]; rw [sw39]; rfl) rfl ?_
    exact lw_points hL hS FH M
  · -- case 10
    refine ma_tableIn 521 dL_law_39 (by rw [iw_of (by omega) (by omega)]; omega) (by rw [iw_of (by omega) (by omega)]; omega) (by rw [iw_of (by omega) (by omega)]; rw [sw39]; rfl) rfl ?_
    exact lw_manifold hL hS FH M
  · -- case 11
    refine ma_tableIn 534 dL_law_39 (by rw [iw_of (by omega) (by omega)]; omega) (by rw [iw_of (by omega) (by omega)]; omega) (by rw [iw_of (by omega) (by omega)]; rw [sw39]; rfl) rfl ?_
    exact lw_sides hL hS FH M
  · -- case 12
    refine ma_tableIn 547 dL_law_39 (by rw [iw_of (by omega) (by omega)]; omega) (by rw [iw_of (by omega) (by omega)]; omega) (by rw [iw_of (by omega) (by omega)]; rw [sw39]; rfl) rfl ?_
    exact lw_group hL hS FH M
  · -- case 13
    refine ma_tableIn 560 dL_law_39 (by rw [iw_of (by omega) (by omega)]; omega) (by rw [iw_of (by omega) (by omega)]; omega) (by rw [iw_of (by omega) (by omega)]; rw [sw39]; rfl) rfl ?_
    exact lw_euler hL hS FH M
  · -- case 14
    refine ma_tableIn 573 dL_law_39 (by rw [iw_of (by omega) (by omega)]; omega) (by rw [iw_of (by omega) (by omega)]; omega) (by rw [iw_of (by omega) (by omega)]; rw [sw39]; rfl) rfl ?_
    exact lw_alike hL hS FH M
  · -- case 15
    refine ma_tableIn 586 dL_law_39 (by rw [iw_of (by omega) (by omega)]; omega) (by rw [iw_of (by omega) (by omega)]; omega) (by rw [iw_of (by omega) (by omega)]; rw [sw39]; rfl) rfl ?_
    exact lw_two hL hS FH M
  · -- case 16
    refine ma_tableIn 623 dL_law_39 (by rw [iw_of (by omega) (by omega)]; omega) (by rw [iw_of (by omega) (by omega)]; omega) (by rw [iw_of (by omega) (by omega)]; rw [sw39]; rfl) rfl ?_
    exact lw_three hL hS FH M
  · -- case 17
    refine ma_tableIn 672 dL_law_39 (by rw [iw_of (by omega) (by omega)]; omega) (by rw [iw_of (by omega) (by omega)]; omega) (by rw [iw_of (by omega) (by omega)]; rw [sw39]; rfl) rfl ?_
    exact lw_one hL hS FH M
  · -- case 18
    refine ma_tableIn 697 dL_law_39 (by rw [iw_of (by omega) (by omega)]; omega) (by rw [iw_of (by omega) (by omega)]; omega) (by rw [iw_of (by omega) (by omega)]; rw [sw39]; rfl) rfl ?_
    exact lw_four hL hS FH M
  · -- case 19
    refine ma_tableIn 734 dL_law_39 (by rw [iw_of (by omega) (by omega)]; omega) (by rw [iw_of (by omega) (by omega)]; omega) (by rw [iw_of (by omega) (by omega)]; rw [sw39]; rfl) rfl ?_
    exact lw_trail hL hS FH M
  · -- case 20
    refine ma_tableIn 747 dL_law_39 (by rw [iw_of (by omega) (by omega)]; omega) (by rw [iw_of (by omega) (by omega)]; omega) (by rw [iw_of (by omega) (by omega)]; rw [sw39]; rfl) rfl ?_
    exact lw_tries hL hS FH M
  · -- case 21
    refine ma_tableIn 760 dL_law_39 (by rw [iw_of (by omega) (by omega)]; omega) (by rw [iw_of (by omega) (by omega)]; omega) (by rw [iw_of (by omega) (by omega)]; rw [sw39]; rfl) rfl ?_
    exact lw_comes hL hS FH M
  · -- case 22
    refine ma_tableIn 773 dL_law_39 (by rw [iw_of (by omega) (by omega)]; omega) (by rw [iw_of (by omega) (by omega)]; omega) (by rw [iw_of (by omega) (by omega)]; rw [sw39]; rfl) rfl ?_
    exact lw_leads hL hS FH M
  · -- case 23
    refine ma_tableIn 798 dL_law_39 (by rw [iw_of (by omega) (by omega)]; omega) (by rw [iw_of (by omega) (by omega)]; omega) (by rw [iw_of (by omega) (by omega)]; rw [sw39]; rfl) rfl ?_
    exact lw_simpler hL hS FH M
  · -- case 24
    refine ma_tableIn 811 dL_law_39 (by rw [iw_of (by omega) (by omega)]; omega) (by rw [iw_of (by omega) (by omega)]; omega) (by rw [iw_of (by omega) (by omega)]; rw [sw39]; rfl) rfl ?_
    exact lw_way hL hS FH M
  · -- case 25
    refine ma_tableIn 860 dL_law_39 (by rw [iw_of (by omega) (by omega)]; omega) (by rw [iw_of (by omega) (by omega)]; omega) (by rw [iw_of (by omega) (by omega)]; rw [sw39]; rfl) rfl ?_
    exact lw_drawn hL hS FH M
  · -- case 26
    refine ma_tableIn 897 dL_law_39 (by rw [iw_of (by omega) (by omega)]; omega) (by rw [iw_of (by omega) (by omega)]; omega) (by rw [iw_of (by omega) (by omega)]; rw [sw39]; rfl) rfl ?_
    exact lw_undo hL hS FH M
  · -- case 27
    refine ma_tableIn 910 dL_law_39 (by rw [iw_of (by omega) (by omega)]; omega) (by rw [iw_of (by omega) (by omega)]; omega) (by rw [iw_of (by omega) (by omega)]; rw [sw39]; rfl) rfl ?_
    exact lw_heard hL hS FH M
  · -- case 28
    refine ma_tableIn 947 dL_law_39 (by rw [iw_of (by omega) (by omega)]; omega) (by rw [iw_of (by omega) (by omega)]; omega) (by rw [iw_of (by omega) (by omega)]; rw [sw39]; rfl) rfl ?_
    exact lw_forget hL hS FH M
  · -- case 29
    refine ma_tableIn 960 dL_law_39 (by rw [iw_of (by omega) (by omega)]; omega) (by rw [iw_of (by omega) (by omega)]; omega) (by rw [iw_of (by omega) (by omega)]; rw [sw39]; rfl) rfl ?_
    exact lw_fits hL hS FH M
  · -- case 30
    refine ma_tableIn 973 dL_law_39 (by rw [iw_of (by omega) (by omega)]; omega) (by rw [iw_of (by omega) (by omega)]; omega) (by rw [iw_of (by omega) (by omega)]; rw [sw39]; rfl) rfl ?_
    exact lw_keep hL hS FH M
  · -- case 31
    refine ma_tableIn 998 dL_law_39 (by rw [iw_of (by omega) (by omega)]; omega) (by rw [iw_of (by omega) (by omega)]; omega) (by rw [iw_of (by omega) (by omega)]; rw [sw39]; rfl) rfl ?_
    exact lw_again hL hS FH M
  · -- case 32
    refine ma_tableIn 1023 dL_law_39 (by rw [iw_of (by omega) (by omega)]; omega) (by rw [iw_of (by omega) (by omega)]; omega) (by rw [iw_of (by omega) (by omega)]; rw [sw39]; rfl) rfl ?_
    exact lw_same hL hS FH M
  · -- case 33
    refine ma_tableIn 1048 dL_law_39 (by rw [iw_of (by omega) (by omega)]; omega) (by rw [iw_of (by omega) (by omega)]; omega) (by rw [iw_of (by omega) (by omega)]; rw [sw39]; rfl) rfl ?_
    exact lw_count hL hS FH M
  · -- case 34
    refine ma_tableIn 1073 dL_law_39 (by rw [iw_of (by omega) (by omega)]; omega) (by rw [iw_of (by omega) (by omega)]; omega) (by rw [iw_of (by omega) (by omega)]; rw [sw39]; rfl) rfl ?_
    exact K34
set_option maxHeartbeats 2000000 in
theorem lw_start {L : Nat} {S : Int → Int} (hL : L < 10) (hS : ∀ i, rg (S i)) (K3 : ∀ {h : ma_H} {kc ks : Nat}, 5 ≤ L → FRC h → FMD h → h 111 = cl 1 (fun _ => 0) → ma_J (some (L, S)) mLw 11 (kc + 1) (ks + 6) 255 [some (vr 2000000), some (vr 0), some (vr 73), some (vr 111), some (vi 0), none, none, none] [] h 1000000 (fun r _ _ => r = some (vi 1))) (K34 : ∀ {h : ma_H} {kc ks : Nat}, 5 ≤ L → FRC h → FMD h → h 111 = cl 1 (fun _ => 0) → ma_J (some (L, S)) mLw 11 (kc + 1) (ks + 6) 1073 [some (vr 2000000), some (vr 0), some (vr 73), some (vr 111), some (vi 0), none, none, none] [] h 1000000 (fun r _ _ => r = some (vi 1))) : ma_J (some (L, S)) mLw 11 600002 7302232 0 (ma_ent 8 [vr 2000000]) [] (fun _ => ma_vd) 0 (fun r _ _ => r = some (vi 1)) := by
  refine ma_new (N := 15) dL_law_0 kX11 nL_8 pX11 qX11 oX11 (by omega) ?_
  refine ma_dup dL_law_3 rfl ?_
  refine ma_callI (d' := 10) (mc := 72) (ms := 3650) [] dL_law_4 wX11_init lL_19 iX11_init rfl rfl (by omega) (Nat.le_of_ble_eq_true rfl) ?_
  refine c_X11_init ?_
  refine ma_astore_nN dL_law_7 (by decide) rfl ?_
  refine ma_new (N := 60) dL_law_8 kX12 nL_20 pX12 qX12 oX12 (by omega) ?_
  refine ma_dup dL_law_11 rfl ?_
  refine ma_callI (d' := 10) (mc := 37) (ms := 7428) [] dL_law_12 wX12_init lL_22 iX12_init rfl rfl (by omega) (Nat.le_of_ble_eq_true rfl) ?_
  refine c_X12_init (fun f A hf a0 a1 => ?_)
  refine ma_astore_nN dL_law_15 (by decide) rfl ?_
  refine ma_iconst dL_law_16 ?_
  refine ma_newa (t := 1) (n := 1) dL_law_17 (by decide) aw_1 (by decide) (by omega) ?_
  refine ma_astore_nN dL_law_19 (by decide) rfl ?_
  refine ma_close ?_ (by decide)
  refine ma_iconst dL_law_20 ?_
  refine ma_istoreN dL_law_21 (by decide) rfl ?_
  refine ma_iload dL_law_23 rfl ?_
  refine ma_aload_n dL_law_25 rfl ?_
  refine ma_slen dL_law_26 ?_
  refine ma_iconst dL_law_27 ?_
  refine ma_isub dL_law_28 ?_
  refine ma_rcmp_gt 1134 dL_law_29 rfl (by decide) (by constructor <;> omega) (fun c29 => ?_) (fun c29 => ?_)
  · -- 1134
    refine ma_iconst dL_law_1134 ?_
    exact ma_zret dL_law_1135 rfl (Or.inr rfl) rfl
  · -- 32
    exact lw_32 ⟨by omega, hL⟩ hS lwf_c (lwf_m hf a0 a1) (K3 (by omega) lwf_c (lwf_m hf a0 a1) rfl) (K34 (by omega) lwf_c (lwf_m hf a0 a1) rfl)
