/-- the model's places: sort, tet, two corners -/
def lso (i : Int) : Int := if i < 32 then 0 else if i < 80 then 1 else if i < 88 then 2 else 3
def lfi (i : Int) : Int := if i < 32 then i / 4 else if i < 80 then (i - 32) / 6 else if i < 88 then i - 80 else (i - 88) / 4
def lse (i : Int) : Int := if i < 32 then i % 4 else if i < 80 then (if (i - 32) % 6 < 3 then 0 else if (i - 32) % 6 < 5 then 1 else 2) else if i < 88 then 0 else (i - 88) % 4
def lth (i : Int) : Int := if i < 32 then 0 else if i < 80 then (if (i - 32) % 6 < 3 then (i - 32) % 6 + 1 else if (i - 32) % 6 < 5 then (i - 32) % 6 - 1 else 3) else 0
/-- the class's number of it -/
def lpk (i : Int) : Int := if i < 32 then i else if i < 80 then 32 + 16 * ((i - 32) / 6) + 4 * lse i + lth i else if i < 88 then i + 80 else i + 80
theorem l_in {i : Int} (i0 : 0 ≤ i) (i1 : i < 120) : (0 ≤ lso i ∧ lso i < 4) ∧ (0 ≤ lfi i ∧ lfi i < 8) ∧ (0 ≤ lse i ∧ lse i < 4) ∧ (0 ≤ lth i ∧ lth i < 4) := by
  unfold lso lfi lse lth
  refine ⟨?_, ?_, ?_, ?_⟩ <;> (repeat' split) <;> omega
theorem l_plc {t i : Int} (i0 : 0 ≤ i) (i1 : i < 120) : plc t (lso i) (lfi i) (lse i) (lth i) = if lfi i < t then lpk i else -1 := by
  have b := l_in i0 i1
  by_cases c : lfi i < t
  · rw [if_pos c]
    unfold plc
    rw [if_neg (by omega)]
    rcases (show i < 32 ∨ (32 ≤ i ∧ i < 80) ∨ (80 ≤ i ∧ i < 88) ∨ 88 ≤ i by omega) with z | z | z | z
    · have e1 : lso i = 0 := by unfold lso; rw [if_pos z]
      have e2 : lfi i = i / 4 := by unfold lfi; rw [if_pos z]
      have e3 : lse i = i % 4 := by unfold lse; rw [if_pos z]
      have e4 : lpk i = i := by unfold lpk; rw [if_pos z]
      rw [e1, if_neg (by decide), if_neg (by decide), if_neg (by omega), if_pos rfl, e4]
      omega
    · have e1 : lso i = 1 := by unfold lso; rw [if_neg (by omega), if_pos z.2]
      have e2 : lfi i = (i - 32) / 6 := by unfold lfi; rw [if_neg (by omega), if_pos z.2]
      have e4 : lpk i = 32 + 16 * ((i - 32) / 6) + 4 * lse i + lth i := by unfold lpk; rw [if_neg (by omega), if_pos z.2]
      have e5 : lse i < lth i := by
        unfold lse lth
        clear b e4 e2 e1
        (repeat' split) <;> omega
      rw [e1, if_neg (by decide), if_pos rfl, if_neg (by omega), if_neg (by omega), if_pos e5, e4]
      omega
    · have e1 : lso i = 2 := by unfold lso; rw [if_neg (by omega), if_neg (by omega), if_pos z.2]
      have e2 : lfi i = i - 80 := by unfold lfi; rw [if_neg (by omega), if_neg (by omega), if_pos z.2]
      have e4 : lpk i = i + 80 := by unfold lpk; rw [if_neg (by omega), if_neg (by omega), if_pos z.2]
      rw [e1, if_pos rfl, e4]
      omega
    · have e1 : lso i = 3 := by unfold lso; rw [if_neg (by omega), if_neg (by omega), if_neg (by omega)]
      have e2 : lfi i = (i - 88) / 4 := by unfold lfi; rw [if_neg (by omega), if_neg (by omega), if_neg (by omega)]
      have e3 : lse i = (i - 88) % 4 := by unfold lse; rw [if_neg (by omega), if_neg (by omega), if_neg (by omega)]
      have e4 : lpk i = i + 80 := by unfold lpk; rw [if_neg (by omega), if_neg (by omega), if_neg (by omega)]
      rw [e1, if_neg (by decide), if_neg (by decide), if_neg (by omega), if_neg (by decide), e4]
      omega
  · rw [if_neg c]
    unfold plc
    rw [if_pos (by omega)]
/-- what layPlace leaves -/
def LPI (J J' : Nat → Int) (i : Int) : Prop := J' 44 = lso i ∧ J' 45 = lfi i ∧ J' 46 = lse i ∧ J' 47 = lth i ∧ ∀ k, k ≠ 44 → k ≠ 45 → k ≠ 46 → k ≠ 47 → J' k = J k
set_option maxHeartbeats 4000000 in
theorem c_X12_layPlace {g : ma_H} {nx d : Nat} {J : Nat → Int} {i : Int} {Q : Option ma_V → ma_H → Nat → Prop} (i0 : 0 ≤ i) (i1 : i < 120) (K : ∀ J', LPI J J' i → Q none (mj g J') nx) : ma_Ct mX12_layPlace d 0 0 [vr 73, vi i] (mj g J) nx Q := by
  refine ma_Ct.of (by decide +kernel) (Nat.le_of_ble_eq_true rfl) ?_
  refine ma_iload_n dX12_layPlace_0 rfl ?_
  refine ma_istore_nN dX12_layPlace_1 (by decide) rfl ?_
  refine ma_aload_n dX12_layPlace_2 rfl ?_
  refine ma_iconst dX12_layPlace_3 ?_
  refine ma_puti dX12_layPlace_4 fX12_457 (by exact mj_73 _ _) (Nat.le_of_ble_eq_true rfl) ?_
  rw [mo_47, mj_p]
  refine ma_iload_n dX12_layPlace_7 rfl ?_
  refine ma_bipush dX12_layPlace_8 ?_
  refine ma_rcmp_ge 33 dX12_layPlace_10 rfl (by constructor <;> omega) (by constructor <;> omega) (fun c10 => ?_) (fun c10 => ?_)
  · -- 33
    refine ma_iincN dX12_layPlace_33 rfl (by decide) rfl ?_
    refine ma_iload_n dX12_layPlace_36 rfl ?_
    refine ma_bipush dX12_layPlace_37 ?_
    refine ma_rcmp_ge 111 dX12_layPlace_39 rfl (by constructor <;> omega) (by constructor <;> omega) (fun c39 => ?_) (fun c39 => ?_)
    · -- 111
      refine ma_iincN dX12_layPlace_111 rfl (by decide) rfl ?_
      refine ma_aload_n dX12_layPlace_114 rfl ?_
      refine ma_iload_n dX12_layPlace_115 rfl ?_
      refine ma_bipush dX12_layPlace_116 ?_
      refine ma_rcmp_ge 125 dX12_layPlace_118 rfl (by constructor <;> omega) (by constructor <;> omega) (fun c118 => ?_) (fun c118 => ?_)
      · -- 125
        refine ma_iconst dX12_layPlace_125 ?_
        refine ma_puti dX12_layPlace_126 fX12_460 (by exact mj_73 _ _) (Nat.le_of_ble_eq_true rfl) ?_
        rw [mo_44, mj_p]
        refine ma_aload_n dX12_layPlace_129 rfl ?_
        refine ma_iload_n dX12_layPlace_130 rfl ?_
        refine ma_bipush dX12_layPlace_131 ?_
        refine ma_rcmp_ge 140 dX12_layPlace_133 rfl (by constructor <;> omega) (by constructor <;> omega) (fun c133 => ?_) (fun c133 => ?_)
        · -- 140
          refine ma_iload_n dX12_layPlace_140 rfl ?_
          refine ma_bipush dX12_layPlace_141 ?_
          refine ma_isub dX12_layPlace_143 ?_
          refine ma_iconst dX12_layPlace_144 ?_
          refine ma_kdiv dX12_layPlace_145 (by constructor <;> omega) (by constructor <;> omega) ?_
          refine ma_puti dX12_layPlace_146 fX12_463 (by exact mj_73 _ _) (Nat.le_of_ble_eq_true rfl) ?_
          rw [mo_45, mj_p]
          refine ma_aload_n dX12_layPlace_149 rfl ?_
          refine ma_iload_n dX12_layPlace_150 rfl ?_
          refine ma_bipush dX12_layPlace_151 ?_
          refine ma_rcmp_ge 160 dX12_layPlace_153 rfl (by constructor <;> omega) (by constructor <;> omega) (fun c153 => ?_) (fun c153 => ?_)
          · -- 160
            refine ma_iload_n dX12_layPlace_160 rfl ?_
            refine ma_bipush dX12_layPlace_161 ?_
            refine ma_isub dX12_layPlace_163 ?_
            refine ma_iconst dX12_layPlace_164 ?_
            refine ma_kmod dX12_layPlace_165 (by constructor <;> omega) (by constructor <;> omega) ?_
            refine ma_puti dX12_layPlace_166 fX12_466 (by exact mj_73 _ _) (Nat.le_of_ble_eq_true rfl) ?_
            rw [mo_46, mj_p]
            refine ma_vret dX12_layPlace_169 rfl (K _ ⟨?_, ?_, ?_, ?_, ?_⟩)
            · (repeat (first | rw [iu_s] | rw [iu_n (by decide)])); unfold lso; (repeat' split) <;> omega
            · (repeat (first | rw [iu_s] | rw [iu_n (by decide)])); unfold lfi; (repeat' split) <;> omega
            · (repeat (first | rw [iu_s] | rw [iu_n (by decide)])); unfold lse; (repeat' split) <;> omega
            · (repeat (first | rw [iu_s] | rw [iu_n (by decide)])); unfold lth; (repeat' split) <;> omega
            · intro k a b c e; simp [iu, a, b, c, e]
          · -- 156
            refine ma_iconst dX12_layPlace_156 ?_
            refine ma_goto 166 dX12_layPlace_157 rfl ?_
            refine ma_puti dX12_layPlace_166 fX12_466 (by exact mj_73 _ _) (Nat.le_of_ble_eq_true rfl) ?_
            rw [mo_46, mj_p]
            refine ma_vret dX12_layPlace_169 rfl (K _ ⟨?_, ?_, ?_, ?_, ?_⟩)
            · (repeat (first | rw [iu_s] | rw [iu_n (by decide)])); unfold lso; (repeat' split) <;> omega
            · (repeat (first | rw [iu_s] | rw [iu_n (by decide)])); unfold lfi; (repeat' split) <;> omega
            · (repeat (first | rw [iu_s] | rw [iu_n (by decide)])); unfold lse; (repeat' split) <;> omega
            · (repeat (first | rw [iu_s] | rw [iu_n (by decide)])); unfold lth; (repeat' split) <;> omega
            · intro k a b c e; simp [iu, a, b, c, e]
        · -- 136
          refine ma_iload_n dX12_layPlace_136 rfl ?_
          refine ma_goto 146 dX12_layPlace_137 rfl ?_
          refine ma_puti dX12_layPlace_146 fX12_463 (by exact mj_73 _ _) (Nat.le_of_ble_eq_true rfl) ?_
          rw [mo_45, mj_p]
          refine ma_aload_n dX12_layPlace_149 rfl ?_
          refine ma_iload_n dX12_layPlace_150 rfl ?_
          refine ma_bipush dX12_layPlace_151 ?_
          refine ma_rcmp_ge 160 dX12_layPlace_153 rfl (by constructor <;> omega) (by constructor <;> omega) (fun c153 => ?_) (fun c153 => ?_)
          · -- 160
            refine ma_iload_n dX12_layPlace_160 rfl ?_
            refine ma_bipush dX12_layPlace_161 ?_
            refine ma_isub dX12_layPlace_163 ?_
            refine ma_iconst dX12_layPlace_164 ?_
            refine ma_kmod dX12_layPlace_165 (by constructor <;> omega) (by constructor <;> omega) ?_
            refine ma_puti dX12_layPlace_166 fX12_466 (by exact mj_73 _ _) (Nat.le_of_ble_eq_true rfl) ?_
            rw [mo_46, mj_p]
            refine ma_vret dX12_layPlace_169 rfl (K _ ⟨?_, ?_, ?_, ?_, ?_⟩)
            · (repeat (first | rw [iu_s] | rw [iu_n (by decide)])); unfold lso; (repeat' split) <;> omega
            · (repeat (first | rw [iu_s] | rw [iu_n (by decide)])); unfold lfi; (repeat' split) <;> omega
            · (repeat (first | rw [iu_s] | rw [iu_n (by decide)])); unfold lse; (repeat' split) <;> omega
            · (repeat (first | rw [iu_s] | rw [iu_n (by decide)])); unfold lth; (repeat' split) <;> omega
            · intro k a b c e; simp [iu, a, b, c, e]
          · -- 156
            refine ma_iconst dX12_layPlace_156 ?_
            refine ma_goto 166 dX12_layPlace_157 rfl ?_
            refine ma_puti dX12_layPlace_166 fX12_466 (by exact mj_73 _ _) (Nat.le_of_ble_eq_true rfl) ?_
            rw [mo_46, mj_p]
            refine ma_vret dX12_layPlace_169 rfl (K _ ⟨?_, ?_, ?_, ?_, ?_⟩)
            · (repeat (first | rw [iu_s] | rw [iu_n (by decide)])); unfold lso; (repeat' split) <;> omega
            · (repeat (first | rw [iu_s] | rw [iu_n (by decide)])); unfold lfi; (repeat' split) <;> omega
            · (repeat (first | rw [iu_s] | rw [iu_n (by decide)])); unfold lse; (repeat' split) <;> omega
            · (repeat (first | rw [iu_s] | rw [iu_n (by decide)])); unfold lth; (repeat' split) <;> omega
            · intro k a b c e; simp [iu, a, b, c, e]
      · -- 121
        refine ma_iconst dX12_layPlace_121 ?_
        refine ma_goto 126 dX12_layPlace_122 rfl ?_
        refine ma_puti dX12_layPlace_126 fX12_460 (by exact mj_73 _ _) (Nat.le_of_ble_eq_true rfl) ?_
        rw [mo_44, mj_p]
        refine ma_aload_n dX12_layPlace_129 rfl ?_
        refine ma_iload_n dX12_layPlace_130 rfl ?_
        refine ma_bipush dX12_layPlace_131 ?_
        refine ma_rcmp_ge 140 dX12_layPlace_133 rfl (by constructor <;> omega) (by constructor <;> omega) (fun c133 => ?_) (fun c133 => ?_)
        · -- 140
          refine ma_iload_n dX12_layPlace_140 rfl ?_
          refine ma_bipush dX12_layPlace_141 ?_
          refine ma_isub dX12_layPlace_143 ?_
          refine ma_iconst dX12_layPlace_144 ?_
          refine ma_kdiv dX12_layPlace_145 (by constructor <;> omega) (by constructor <;> omega) ?_
          refine ma_puti dX12_layPlace_146 fX12_463 (by exact mj_73 _ _) (Nat.le_of_ble_eq_true rfl) ?_
          rw [mo_45, mj_p]
          refine ma_aload_n dX12_layPlace_149 rfl ?_
          refine ma_iload_n dX12_layPlace_150 rfl ?_
          refine ma_bipush dX12_layPlace_151 ?_
          refine ma_rcmp_ge 160 dX12_layPlace_153 rfl (by constructor <;> omega) (by constructor <;> omega) (fun c153 => ?_) (fun c153 => ?_)
          · -- 160
            refine ma_iload_n dX12_layPlace_160 rfl ?_
            refine ma_bipush dX12_layPlace_161 ?_
            refine ma_isub dX12_layPlace_163 ?_
            refine ma_iconst dX12_layPlace_164 ?_
            refine ma_kmod dX12_layPlace_165 (by constructor <;> omega) (by constructor <;> omega) ?_
            refine ma_puti dX12_layPlace_166 fX12_466 (by exact mj_73 _ _) (Nat.le_of_ble_eq_true rfl) ?_
            rw [mo_46, mj_p]
            refine ma_vret dX12_layPlace_169 rfl (K _ ⟨?_, ?_, ?_, ?_, ?_⟩)
            · (repeat (first | rw [iu_s] | rw [iu_n (by decide)])); unfold lso; (repeat' split) <;> omega
            · (repeat (first | rw [iu_s] | rw [iu_n (by decide)])); unfold lfi; (repeat' split) <;> omega
            · (repeat (first | rw [iu_s] | rw [iu_n (by decide)])); unfold lse; (repeat' split) <;> omega
            · (repeat (first | rw [iu_s] | rw [iu_n (by decide)])); unfold lth; (repeat' split) <;> omega
            · intro k a b c e; simp [iu, a, b, c, e]
          · -- 156
            refine ma_iconst dX12_layPlace_156 ?_
            refine ma_goto 166 dX12_layPlace_157 rfl ?_
            refine ma_puti dX12_layPlace_166 fX12_466 (by exact mj_73 _ _) (Nat.le_of_ble_eq_true rfl) ?_
            rw [mo_46, mj_p]
            refine ma_vret dX12_layPlace_169 rfl (K _ ⟨?_, ?_, ?_, ?_, ?_⟩)
            · (repeat (first | rw [iu_s] | rw [iu_n (by decide)])); unfold lso; (repeat' split) <;> omega
            · (repeat (first | rw [iu_s] | rw [iu_n (by decide)])); unfold lfi; (repeat' split) <;> omega
            · (repeat (first | rw [iu_s] | rw [iu_n (by decide)])); unfold lse; (repeat' split) <;> omega
            · (repeat (first | rw [iu_s] | rw [iu_n (by decide)])); unfold lth; (repeat' split) <;> omega
            · intro k a b c e; simp [iu, a, b, c, e]
        · -- 136
          refine ma_iload_n dX12_layPlace_136 rfl ?_
          refine ma_goto 146 dX12_layPlace_137 rfl ?_
          refine ma_puti dX12_layPlace_146 fX12_463 (by exact mj_73 _ _) (Nat.le_of_ble_eq_true rfl) ?_
          rw [mo_45, mj_p]
          refine ma_aload_n dX12_layPlace_149 rfl ?_
          refine ma_iload_n dX12_layPlace_150 rfl ?_
          refine ma_bipush dX12_layPlace_151 ?_
          refine ma_rcmp_ge 160 dX12_layPlace_153 rfl (by constructor <;> omega) (by constructor <;> omega) (fun c153 => ?_) (fun c153 => ?_)
          · -- 160
            refine ma_iload_n dX12_layPlace_160 rfl ?_
            refine ma_bipush dX12_layPlace_161 ?_
            refine ma_isub dX12_layPlace_163 ?_
            refine ma_iconst dX12_layPlace_164 ?_
            refine ma_kmod dX12_layPlace_165 (by constructor <;> omega) (by constructor <;> omega) ?_
            refine ma_puti dX12_layPlace_166 fX12_466 (by exact mj_73 _ _) (Nat.le_of_ble_eq_true rfl) ?_
            rw [mo_46, mj_p]
            refine ma_vret dX12_layPlace_169 rfl (K _ ⟨?_, ?_, ?_, ?_, ?_⟩)
            · (repeat (first | rw [iu_s] | rw [iu_n (by decide)])); unfold lso; (repeat' split) <;> omega
            · (repeat (first | rw [iu_s] | rw [iu_n (by decide)])); unfold lfi; (repeat' split) <;> omega
            · (repeat (first | rw [iu_s] | rw [iu_n (by decide)])); unfold lse; (repeat' split) <;> omega
            · (repeat (first | rw [iu_s] | rw [iu_n (by decide)])); unfold lth; (repeat' split) <;> omega
            · intro k a b c e; simp [iu, a, b, c, e]
          · -- 156
            refine ma_iconst dX12_layPlace_156 ?_
            refine ma_goto 166 dX12_layPlace_157 rfl ?_
            refine ma_puti dX12_layPlace_166 fX12_466 (by exact mj_73 _ _) (Nat.le_of_ble_eq_true rfl) ?_
            rw [mo_46, mj_p]
            refine ma_vret dX12_layPlace_169 rfl (K _ ⟨?_, ?_, ?_, ?_, ?_⟩)
            · (repeat (first | rw [iu_s] | rw [iu_n (by decide)])); unfold lso; (repeat' split) <;> omega
            · (repeat (first | rw [iu_s] | rw [iu_n (by decide)])); unfold lfi; (repeat' split) <;> omega
            · (repeat (first | rw [iu_s] | rw [iu_n (by decide)])); unfold lse; (repeat' split) <;> omega
            · (repeat (first | rw [iu_s] | rw [iu_n (by decide)])); unfold lth; (repeat' split) <;> omega
            · intro k a b c e; simp [iu, a, b, c, e]
    · -- 42
      refine ma_aload_n dX12_layPlace_42 rfl ?_
      refine ma_iconst dX12_layPlace_43 ?_
      refine ma_puti dX12_layPlace_44 fX12_460 (by exact mj_73 _ _) (Nat.le_of_ble_eq_true rfl) ?_
      rw [mo_44, mj_p]
      refine ma_aload_n dX12_layPlace_47 rfl ?_
      refine ma_iload_n dX12_layPlace_48 rfl ?_
      refine ma_bipush dX12_layPlace_49 ?_
      refine ma_kdiv dX12_layPlace_51 (by constructor <;> omega) (by constructor <;> omega) ?_
      refine ma_puti dX12_layPlace_52 fX12_463 (by exact mj_73 _ _) (Nat.le_of_ble_eq_true rfl) ?_
      rw [mo_45, mj_p]
      refine ma_iload_n dX12_layPlace_55 rfl ?_
      refine ma_bipush dX12_layPlace_56 ?_
      refine ma_kmod dX12_layPlace_58 (by constructor <;> omega) (by constructor <;> omega) ?_
      refine ma_istore_nN dX12_layPlace_59 (by decide) rfl ?_
      refine ma_aload_n dX12_layPlace_60 rfl ?_
      refine ma_iload_n dX12_layPlace_61 rfl ?_
      refine ma_iconst dX12_layPlace_62 ?_
      refine ma_rcmp_ge 70 dX12_layPlace_63 rfl (by constructor <;> omega) (by constructor <;> omega) (fun c63 => ?_) (fun c63 => ?_)
      · -- 70
        refine ma_iload_n dX12_layPlace_70 rfl ?_
        refine ma_iconst dX12_layPlace_71 ?_
        refine ma_rcmp_ge 79 dX12_layPlace_72 rfl (by constructor <;> omega) (by constructor <;> omega) (fun c72 => ?_) (fun c72 => ?_)
        · -- 79
          refine ma_iconst dX12_layPlace_79 ?_
          refine ma_puti dX12_layPlace_80 fX12_466 (by exact mj_73 _ _) (Nat.le_of_ble_eq_true rfl) ?_
          rw [mo_46, mj_p]
          refine ma_aload_n dX12_layPlace_83 rfl ?_
          refine ma_iload_n dX12_layPlace_84 rfl ?_
          refine ma_iconst dX12_layPlace_85 ?_
          refine ma_rcmp_ge 95 dX12_layPlace_86 rfl (by constructor <;> omega) (by constructor <;> omega) (fun c86 => ?_) (fun c86 => ?_)
          · -- 95
            refine ma_iload_n dX12_layPlace_95 rfl ?_
            refine ma_iconst dX12_layPlace_96 ?_
            refine ma_rcmp_ge 106 dX12_layPlace_97 rfl (by constructor <;> omega) (by constructor <;> omega) (fun c97 => ?_) (fun c97 => ?_)
            · -- 106
              refine ma_iconst dX12_layPlace_106 ?_
              refine ma_puti dX12_layPlace_107 fX12_457 (by exact mj_73 _ _) (Nat.le_of_ble_eq_true rfl) ?_
              rw [mo_47, mj_p]
              refine ma_vret dX12_layPlace_110 rfl (K _ ⟨?_, ?_, ?_, ?_, ?_⟩)
              · (repeat (first | rw [iu_s] | rw [iu_n (by decide)])); unfold lso; (repeat' split) <;> omega
              · (repeat (first | rw [iu_s] | rw [iu_n (by decide)])); unfold lfi; (repeat' split) <;> omega
              · (repeat (first | rw [iu_s] | rw [iu_n (by decide)])); unfold lse; (repeat' split) <;> omega
              · (repeat (first | rw [iu_s] | rw [iu_n (by decide)])); unfold lth; (repeat' split) <;> omega
              · intro k a b c e; simp [iu, a, b, c, e]
            · -- 100
              refine ma_iload_n dX12_layPlace_100 rfl ?_
              refine ma_iconst dX12_layPlace_101 ?_
              refine ma_isub dX12_layPlace_102 ?_
              refine ma_goto 107 dX12_layPlace_103 rfl ?_
              refine ma_puti dX12_layPlace_107 fX12_457 (by exact mj_73 _ _) (Nat.le_of_ble_eq_true rfl) ?_
              rw [mo_47, mj_p]
              refine ma_vret dX12_layPlace_110 rfl (K _ ⟨?_, ?_, ?_, ?_, ?_⟩)
              · (repeat (first | rw [iu_s] | rw [iu_n (by decide)])); unfold lso; (repeat' split) <;> omega
              · (repeat (first | rw [iu_s] | rw [iu_n (by decide)])); unfold lfi; (repeat' split) <;> omega
              · (repeat (first | rw [iu_s] | rw [iu_n (by decide)])); unfold lse; (repeat' split) <;> omega
              · (repeat (first | rw [iu_s] | rw [iu_n (by decide)])); unfold lth; (repeat' split) <;> omega
              · intro k a b c e; simp [iu, a, b, c, e]
          · -- 89
            refine ma_iload_n dX12_layPlace_89 rfl ?_
            refine ma_iconst dX12_layPlace_90 ?_
            refine ma_iadd dX12_layPlace_91 ?_
            refine ma_goto 107 dX12_layPlace_92 rfl ?_
            refine ma_puti dX12_layPlace_107 fX12_457 (by exact mj_73 _ _) (Nat.le_of_ble_eq_true rfl) ?_
            rw [mo_47, mj_p]
            refine ma_vret dX12_layPlace_110 rfl (K _ ⟨?_, ?_, ?_, ?_, ?_⟩)
            · (repeat (first | rw [iu_s] | rw [iu_n (by decide)])); unfold lso; (repeat' split) <;> omega
            · (repeat (first | rw [iu_s] | rw [iu_n (by decide)])); unfold lfi; (repeat' split) <;> omega
            · (repeat (first | rw [iu_s] | rw [iu_n (by decide)])); unfold lse; (repeat' split) <;> omega
            · (repeat (first | rw [iu_s] | rw [iu_n (by decide)])); unfold lth; (repeat' split) <;> omega
            · intro k a b c e; simp [iu, a, b, c, e]
        · -- 75
          refine ma_iconst dX12_layPlace_75 ?_
          refine ma_goto 80 dX12_layPlace_76 rfl ?_
          refine ma_puti dX12_layPlace_80 fX12_466 (by exact mj_73 _ _) (Nat.le_of_ble_eq_true rfl) ?_
          rw [mo_46, mj_p]
          refine ma_aload_n dX12_layPlace_83 rfl ?_
          refine ma_iload_n dX12_layPlace_84 rfl ?_
          refine ma_iconst dX12_layPlace_85 ?_
          refine ma_rcmp_ge 95 dX12_layPlace_86 rfl (by constructor <;> omega) (by constructor <;> omega) (fun c86 => ?_) (fun c86 => ?_)
          · -- 95
            refine ma_iload_n dX12_layPlace_95 rfl ?_
            refine ma_iconst dX12_layPlace_96 ?_
            refine ma_rcmp_ge 106 dX12_layPlace_97 rfl (by constructor <;> omega) (by constructor <;> omega) (fun c97 => ?_) (fun c97 => ?_)
            · -- 106
              refine ma_iconst dX12_layPlace_106 ?_
              refine ma_puti dX12_layPlace_107 fX12_457 (by exact mj_73 _ _) (Nat.le_of_ble_eq_true rfl) ?_
              rw [mo_47, mj_p]
              refine ma_vret dX12_layPlace_110 rfl (K _ ⟨?_, ?_, ?_, ?_, ?_⟩)
              · (repeat (first | rw [iu_s] | rw [iu_n (by decide)])); unfold lso; (repeat' split) <;> omega
              · (repeat (first | rw [iu_s] | rw [iu_n (by decide)])); unfold lfi; (repeat' split) <;> omega
              · (repeat (first | rw [iu_s] | rw [iu_n (by decide)])); unfold lse; (repeat' split) <;> omega
              · (repeat (first | rw [iu_s] | rw [iu_n (by decide)])); unfold lth; (repeat' split) <;> omega
              · intro k a b c e; simp [iu, a, b, c, e]
            · -- 100
              refine ma_iload_n dX12_layPlace_100 rfl ?_
              refine ma_iconst dX12_layPlace_101 ?_
              refine ma_isub dX12_layPlace_102 ?_
              refine ma_goto 107 dX12_layPlace_103 rfl ?_
              refine ma_puti dX12_layPlace_107 fX12_457 (by exact mj_73 _ _) (Nat.le_of_ble_eq_true rfl) ?_
              rw [mo_47, mj_p]
              refine ma_vret dX12_layPlace_110 rfl (K _ ⟨?_, ?_, ?_, ?_, ?_⟩)
              · (repeat (first | rw [iu_s] | rw [iu_n (by decide)])); unfold lso; (repeat' split) <;> omega
              · (repeat (first | rw [iu_s] | rw [iu_n (by decide)])); unfold lfi; (repeat' split) <;> omega
              · (repeat (first | rw [iu_s] | rw [iu_n (by decide)])); unfold lse; (repeat' split) <;> omega
              · (repeat (first | rw [iu_s] | rw [iu_n (by decide)])); unfold lth; (repeat' split) <;> omega
              · intro k a b c e; simp [iu, a, b, c, e]
          · -- 89
            refine ma_iload_n dX12_layPlace_89 rfl ?_
            refine ma_iconst dX12_layPlace_90 ?_
            refine ma_iadd dX12_layPlace_91 ?_
            refine ma_goto 107 dX12_layPlace_92 rfl ?_
            refine ma_puti dX12_layPlace_107 fX12_457 (by exact mj_73 _ _) (Nat.le_of_ble_eq_true rfl) ?_
            rw [mo_47, mj_p]
            refine ma_vret dX12_layPlace_110 rfl (K _ ⟨?_, ?_, ?_, ?_, ?_⟩)
            · (repeat (first | rw [iu_s] | rw [iu_n (by decide)])); unfold lso; (repeat' split) <;> omega
            · (repeat (first | rw [iu_s] | rw [iu_n (by decide)])); unfold lfi; (repeat' split) <;> omega
            · (repeat (first | rw [iu_s] | rw [iu_n (by decide)])); unfold lse; (repeat' split) <;> omega
            · (repeat (first | rw [iu_s] | rw [iu_n (by decide)])); unfold lth; (repeat' split) <;> omega
            · intro k a b c e; simp [iu, a, b, c, e]
      · -- 66
        refine ma_iconst dX12_layPlace_66 ?_
        refine ma_goto 80 dX12_layPlace_67 rfl ?_
        refine ma_puti dX12_layPlace_80 fX12_466 (by exact mj_73 _ _) (Nat.le_of_ble_eq_true rfl) ?_
        rw [mo_46, mj_p]
        refine ma_aload_n dX12_layPlace_83 rfl ?_
        refine ma_iload_n dX12_layPlace_84 rfl ?_
        refine ma_iconst dX12_layPlace_85 ?_
        refine ma_rcmp_ge 95 dX12_layPlace_86 rfl (by constructor <;> omega) (by constructor <;> omega) (fun c86 => ?_) (fun c86 => ?_)
        · -- 95
          refine ma_iload_n dX12_layPlace_95 rfl ?_
          refine ma_iconst dX12_layPlace_96 ?_
          refine ma_rcmp_ge 106 dX12_layPlace_97 rfl (by constructor <;> omega) (by constructor <;> omega) (fun c97 => ?_) (fun c97 => ?_)
          · -- 106
            refine ma_iconst dX12_layPlace_106 ?_
            refine ma_puti dX12_layPlace_107 fX12_457 (by exact mj_73 _ _) (Nat.le_of_ble_eq_true rfl) ?_
            rw [mo_47, mj_p]
            refine ma_vret dX12_layPlace_110 rfl (K _ ⟨?_, ?_, ?_, ?_, ?_⟩)
            · (repeat (first | rw [iu_s] | rw [iu_n (by decide)])); unfold lso; (repeat' split) <;> omega
            · (repeat (first | rw [iu_s] | rw [iu_n (by decide)])); unfold lfi; (repeat' split) <;> omega
            · (repeat (first | rw [iu_s] | rw [iu_n (by decide)])); unfold lse; (repeat' split) <;> omega
            · (repeat (first | rw [iu_s] | rw [iu_n (by decide)])); unfold lth; (repeat' split) <;> omega
            · intro k a b c e; simp [iu, a, b, c, e]
          · -- 100
            refine ma_iload_n dX12_layPlace_100 rfl ?_
            refine ma_iconst dX12_layPlace_101 ?_
            refine ma_isub dX12_layPlace_102 ?_
            refine ma_goto 107 dX12_layPlace_103 rfl ?_
            refine ma_puti dX12_layPlace_107 fX12_457 (by exact mj_73 _ _) (Nat.le_of_ble_eq_true rfl) ?_
            rw [mo_47, mj_p]
            refine ma_vret dX12_layPlace_110 rfl (K _ ⟨?_, ?_, ?_, ?_, ?_⟩)
            · (repeat (first | rw [iu_s] | rw [iu_n (by decide)])); unfold lso; (repeat' split) <;> omega
            · (repeat (first | rw [iu_s] | rw [iu_n (by decide)])); unfold lfi; (repeat' split) <;> omega
            · (repeat (first | rw [iu_s] | rw [iu_n (by decide)])); unfold lse; (repeat' split) <;> omega
            · (repeat (first | rw [iu_s] | rw [iu_n (by decide)])); unfold lth; (repeat' split) <;> omega
            · intro k a b c e; simp [iu, a, b, c, e]
        · -- 89
          refine ma_iload_n dX12_layPlace_89 rfl ?_
          refine ma_iconst dX12_layPlace_90 ?_
          refine ma_iadd dX12_layPlace_91 ?_
          refine ma_goto 107 dX12_layPlace_92 rfl ?_
          refine ma_puti dX12_layPlace_107 fX12_457 (by exact mj_73 _ _) (Nat.le_of_ble_eq_true rfl) ?_
          rw [mo_47, mj_p]
          refine ma_vret dX12_layPlace_110 rfl (K _ ⟨?_, ?_, ?_, ?_, ?_⟩)
          · (repeat (first | rw [iu_s] | rw [iu_n (by decide)])); unfold lso; (repeat' split) <;> omega
          · (repeat (first | rw [iu_s] | rw [iu_n (by decide)])); unfold lfi; (repeat' split) <;> omega
          · (repeat (first | rw [iu_s] | rw [iu_n (by decide)])); unfold lse; (repeat' split) <;> omega
          · (repeat (first | rw [iu_s] | rw [iu_n (by decide)])); unfold lth; (repeat' split) <;> omega
          · intro k a b c e; simp [iu, a, b, c, e]
  · -- 13
    refine ma_aload_n dX12_layPlace_13 rfl ?_
    refine ma_iconst dX12_layPlace_14 ?_
    refine ma_puti dX12_layPlace_15 fX12_460 (by exact mj_73 _ _) (Nat.le_of_ble_eq_true rfl) ?_
    rw [mo_44, mj_p]
    refine ma_aload_n dX12_layPlace_18 rfl ?_
    refine ma_iload_n dX12_layPlace_19 rfl ?_
    refine ma_iconst dX12_layPlace_20 ?_
    refine ma_kdiv dX12_layPlace_21 (by constructor <;> omega) (by constructor <;> omega) ?_
    refine ma_puti dX12_layPlace_22 fX12_463 (by exact mj_73 _ _) (Nat.le_of_ble_eq_true rfl) ?_
    rw [mo_45, mj_p]
    refine ma_aload_n dX12_layPlace_25 rfl ?_
    refine ma_iload_n dX12_layPlace_26 rfl ?_
    refine ma_iconst dX12_layPlace_27 ?_
    refine ma_kmod dX12_layPlace_28 (by constructor <;> omega) (by constructor <;> omega) ?_
    refine ma_puti dX12_layPlace_29 fX12_466 (by exact mj_73 _ _) (Nat.le_of_ble_eq_true rfl) ?_
    rw [mo_46, mj_p]
    refine ma_vret dX12_layPlace_32 rfl (K _ ⟨?_, ?_, ?_, ?_, ?_⟩)
    · (repeat (first | rw [iu_s] | rw [iu_n (by decide)])); unfold lso; (repeat' split) <;> omega
    · (repeat (first | rw [iu_s] | rw [iu_n (by decide)])); unfold lfi; (repeat' split) <;> omega
    · (repeat (first | rw [iu_s] | rw [iu_n (by decide)])); unfold lse; (repeat' split) <;> omega
    · (repeat (first | rw [iu_s] | rw [iu_n (by decide)])); unfold lth; (repeat' split) <;> omega
    · intro k a b c e; simp [iu, a, b, c, e]
/-- how the model stands behind a place -/
def GPI (h h' : ma_H) (I I' : Nat → Int) (i : Int) : Prop := kp h h' (100 :: mvl) ∧ h' 73 = co 12 (mo I') ∧ (∀ k, k ≠ 12 → k ≠ 32 → k ≠ 34 → k ≠ 44 → k ≠ 45 → k ≠ 46 → k ≠ 47 → I' k = I k) ∧ (I' 44 = lso i ∧ I' 45 = lfi i ∧ I' 46 = lse i ∧ I' 47 = lth i) ∧ SMO h' ∧ ∃ W, h' 100 = ci 33 W
theorem lpk_in {i : Int} (i0 : 0 ≤ i) (i1 : i < 120) : 0 ≤ lpk i ∧ lpk i < 200 := by
  have b := l_in i0 i1
  unfold lpk
  (repeat' split) <;> omega
set_option maxHeartbeats 4000000 in
theorem c_X12_goPlace {h : ma_H} {b nx d : Nat} {t t1 i : Int} {I : Nat → Int} {G Bf W G1 : Int → Int} {Q : Option ma_V → ma_H → Nat → Prop} (hM : h 73 = co 12 (mo I)) (hS : SMO h) (hb : h b = ci 33 Bf) (nb : b ≠ 73 ∧ b ≠ 100) (h100 : h 100 = ci 33 W) (hG : VG t G) (hC : CN t G) (hA : AG t G Bf) (i0 : 0 ≤ i) (i1 : i < 120) (hst : lfi i < t → RFE t G (lso i) (plc t (lso i) (lfi i) (lse i) (lth i)) → STP t G (plc t (lso i) (lfi i) (lse i) (lth i)) t1 G1) (K0 : ∀ h' I', ¬ (lfi i < t ∧ RFE t G (lso i) (plc t (lso i) (lfi i) (lse i) (lth i))) → GPI h h' I I' i → Q (some (vi 0)) h' nx) (K1 : ∀ h' I' A', (lfi i < t ∧ RFE t G (lso i) (plc t (lso i) (lfi i) (lse i) (lth i))) → GPI h h' I I' i → h' 100 = ci 33 A' → AG t1 G1 A' → Q (some (vi 1)) h' nx) : ma_Ct mX12_goPlace (d + 7) 0 0 [vr 73, vr b, vi i] h nx Q := by
  have ht := hG.1
  have lb := l_in i0 i1
  rw [← ma_up_id hM]
  refine ma_Ct.of (by decide +kernel) (Nat.le_of_ble_eq_true rfl) ?_
  refine ma_aload_n dX12_goPlace_0 rfl ?_
  refine ma_iload_n dX12_goPlace_1 rfl ?_
  refine ma_cV [_] dX12_goPlace_2 wX12_layPlace lX12_469 iX12_layPlace sX12_layPlace rfl (by first | exact mj_73 _ _ | exact (ma_up_n (by omega)).trans hb | exact (ma_up_n (by decide)).trans (mj_73 _ _)) (Nat.le_of_ble_eq_true rfl) ?_
  refine c_X12_layPlace i0 i1 (fun J' hJ => ?_)
  obtain ⟨j44, j45, j46, j47, jo⟩ := hJ
  refine ma_aload_n dX12_goPlace_5 rfl ?_
  refine ma_getf dX12_goPlace_6 fX12_463 (by first | exact mj_73 _ _ | exact (ma_up_n (by omega)).trans hb | exact (ma_up_n (by decide)).trans (mj_73 _ _)) (by rfl) ?_
  rw [j45]
  refine ma_aload_n dX12_goPlace_9 rfl ?_
  refine ma_iconst dX12_goPlace_10 ?_
  refine ma_iald dX12_goPlace_11 (by first | exact mj_73 _ _ | exact (ma_up_n (by omega)).trans hb | exact (ma_up_n (by decide)).trans (mj_73 _ _)) (by omega) (by omega) (by omega) ?_
  rw [hA.1]
  refine ma_rcmp_lt 17 dX12_goPlace_12 rfl (by constructor <;> omega) (by constructor <;> omega) (fun c12 => ?_) (fun c12 => ?_)
  · -- 17
    refine ma_aload_n dX12_goPlace_17 rfl ?_
    refine ma_aload_n dX12_goPlace_18 rfl ?_
    refine ma_getf dX12_goPlace_19 fX12_90 (by first | exact mj_73 _ _ | exact (ma_up_n (by omega)).trans hb | exact (ma_up_n (by decide)).trans (mj_73 _ _)) (by rfl) ?_
    refine ma_cS [_, _] dX12_goPlace_22 wX12_lay lX12_168 tX12_lay (Nat.le_of_ble_eq_true rfl) ?_
    refine c_X12_lay ((ma_up_n (by omega)).trans hb) ((ma_up_n (by decide)).trans h100) (by omega) ?_
    refine ma_aload_n dX12_goPlace_25 rfl ?_
    refine ma_aload_n dX12_goPlace_26 rfl ?_
    refine ma_getf dX12_goPlace_27 fX12_90 (by first | exact mj_73 _ _ | exact (ma_up_n (by omega)).trans hb | exact (ma_up_n (by decide)).trans (mj_73 _ _)) (by rfl) ?_
    refine ma_aload_n dX12_goPlace_30 rfl ?_
    refine ma_getf dX12_goPlace_31 fX12_460 (by first | exact mj_73 _ _ | exact (ma_up_n (by omega)).trans hb | exact (ma_up_n (by decide)).trans (mj_73 _ _)) (by rfl) ?_
    rw [j44]
    refine ma_aload_n dX12_goPlace_34 rfl ?_
    refine ma_getf dX12_goPlace_35 fX12_463 (by first | exact mj_73 _ _ | exact (ma_up_n (by omega)).trans hb | exact (ma_up_n (by decide)).trans (mj_73 _ _)) (by rfl) ?_
    rw [j45]
    refine ma_aload_n dX12_goPlace_38 rfl ?_
    refine ma_getf dX12_goPlace_39 fX12_466 (by first | exact mj_73 _ _ | exact (ma_up_n (by omega)).trans hb | exact (ma_up_n (by decide)).trans (mj_73 _ _)) (by rfl) ?_
    rw [j46]
    refine ma_aload_n dX12_goPlace_42 rfl ?_
    refine ma_getf dX12_goPlace_43 fX12_457 (by first | exact mj_73 _ _ | exact (ma_up_n (by omega)).trans hb | exact (ma_up_n (by decide)).trans (mj_73 _ _)) (by rfl) ?_
    rw [j47]
    refine ma_cV [_, _, _, _, _] dX12_goPlace_46 wX12_goMove lX12_440 iX12_goMove sX12_goMove rfl (by first | exact mj_73 _ _ | exact (ma_up_n (by omega)).trans hb | exact (ma_up_n (by decide)).trans (mj_73 _ _)) (Nat.le_of_ble_eq_true rfl) ?_
    have kg : kp h (ma_up (mj h J') 100 (ci 33 Bf)) (100 :: mvl) := kp_up (by simp) (kp_up (by simp) (kp_rf _ _))
    refine c_X12_goMove ((ma_up_n (by decide)).trans (mj_73 _ _)) (smo_n (by decide) (by decide) (smo_n (by decide) (by decide) hS)) (ma_up_s _ _ _) (by decide) (Or.inl (by decide)) hG hC hA lb.1 (by unfold rg; omega) (by unfold rg; omega) (by unfold rg; omega) (t1 := t1) (G1 := G1) (fun a b => hst c12 b) (fun a => ?_) (fun a E P b c h' I' m1 m2 => ?_) (fun a b h' I' A' m1 m2 m3 => ?_)
    · exfalso
      rw [l_plc i0 i1, if_pos c12] at a
      have := lpk_in i0 i1
      omega
    · have rb := RF_in (t := t) (G := G) (E := E) (P := P) (k := (plc t (lso i) (lfi i) (lse i) (lth i)))
      refine ma_rif_ne 56 dX12_goPlace_49 rfl (by constructor <;> omega) (fun c49 => ?_) (fun c49 => absurd c49 (by omega))
      refine ma_iconst dX12_goPlace_56 ?_
      exact ma_zret dX12_goPlace_57 rfl (Or.inl rfl) (K0 h' I' (fun z => rfe_un hG lb.1 a b c z.2) ⟨kp_tr kg m1.1, m1.2.1, fun k a b c e f g' h'' => (m1.2.2.1 k a b c).trans (jo k e f g' h''), ⟨(m1.2.2.1 44 (by decide) (by decide) (by decide)).trans j44, (m1.2.2.1 45 (by decide) (by decide) (by decide)).trans j45, (m1.2.2.1 46 (by decide) (by decide) (by decide)).trans j46, (m1.2.2.1 47 (by decide) (by decide) (by decide)).trans j47⟩, m1.2.2.2, Bf, m2⟩)
    · refine ma_rif_ne 56 dX12_goPlace_49 rfl (by decide) (fun c49 => absurd c49 (by decide)) (fun c49 => ?_)
      refine ma_iconst dX12_goPlace_52 ?_
      refine ma_goto 57 dX12_goPlace_53 rfl ?_
      exact ma_zret dX12_goPlace_57 rfl (Or.inr rfl) (K1 h' I' A' ⟨c12, b⟩ ⟨kp_tr kg m1.1, m1.2.1, fun k a b c e f g' h'' => (m1.2.2.1 k a b c).trans (jo k e f g' h''), ⟨(m1.2.2.1 44 (by decide) (by decide) (by decide)).trans j44, (m1.2.2.1 45 (by decide) (by decide) (by decide)).trans j45, (m1.2.2.1 46 (by decide) (by decide) (by decide)).trans j46, (m1.2.2.1 47 (by decide) (by decide) (by decide)).trans j47⟩, m1.2.2.2, A', m2⟩ m2 m3)
  · -- 15
    refine ma_iconst dX12_goPlace_15 ?_
    exact ma_zret dX12_goPlace_16 rfl (Or.inl rfl) (K0 _ J' (fun z => by omega) ⟨kp_up (by simp) (kp_rf _ _), mj_73 _ _, fun k a b c e f g' h'' => jo k e f g' h'', ⟨j44, j45, j46, j47⟩, smo_n (by decide) (by decide) hS, W, (ma_up_n (by decide)).trans h100⟩)
/-- the first place of a sort at which it can be -/
def FM (t : Int) (G : Int → Int) (w k : Int) : Prop := (0 ≤ k ∧ k < 120) ∧ lso k = w ∧ (lfi k < t ∧ RFE t G (lso k) (plc t (lso k) (lfi k) (lse k) (lth k))) ∧ ∀ j, 0 ≤ j → j < k → lso j = w → ¬ (lfi j < t ∧ RFE t G (lso j) (plc t (lso j) (lfi j) (lse j) (lth j)))
/-- how the model stands while it is made simpler -/
def GS (h h' : ma_H) (I I' : Nat → Int) (t : Int) (G : Int → Int) : Prop := kp h h' (100 :: 107 :: mvl) ∧ h' 73 = co 12 (mo I') ∧ (∀ k, k ≠ 12 → k ≠ 32 → k ≠ 34 → k ≠ 44 → k ≠ 45 → k ≠ 46 → k ≠ 47 → I' k = I k) ∧ SMO h' ∧ (∃ W, h' 100 = ci 33 W) ∧ ∃ A, h' 107 = ci 33 A ∧ AG t G A
theorem gs_tr {h h' h'' : ma_H} {I I' I'' : Nat → Int} {t t1 : Int} {G G1 : Int → Int} (a : GS h h' I I' t G) (b : GS h' h'' I' I'' t1 G1) : GS h h'' I I'' t1 G1 := ⟨kp_tr a.1 b.1, b.2.1, fun k p1 p2 p3 p4 p5 p6 p7 => (b.2.2.1 k p1 p2 p3 p4 p5 p6 p7).trans (a.2.2.1 k p1 p2 p3 p4 p5 p6 p7), b.2.2.2⟩
set_option maxHeartbeats 4000000 in
theorem l_gf2 {nx d : Nat} {t t1 w : Int} {G G1 : Int → Int} {Q : Option ma_V → ma_H → Nat → Prop} (hG : VG t G) (hC : CN t G) (w0 : 0 ≤ w ∧ w < 4) (hst : ∀ k, FM t G w k → STP t G (plc t (lso k) (lfi k) (lse k) (lth k)) t1 G1) :
    ∀ (m : Nat) (k : Int) (h : ma_H) (I : Nat → Int) (W A : Int → Int), 0 ≤ k → k ≤ 120 → 120 - k < m → h 73 = co 12 (mo I) → SMO h → h 100 = ci 33 W → h 107 = ci 33 A → AG t G A → (∀ j, 0 ≤ j → j < k → lso j = w → ¬ (lfi j < t ∧ RFE t G (lso j) (plc t (lso j) (lfi j) (lse j) (lth j)))) → (∀ k h' I', FM t G w k → GS h h' I I' t1 G1 → Q (some (vi 1)) h' nx) → (∀ h' I', (∀ j, 0 ≤ j → j < 120 → lso j = w → ¬ (lfi j < t ∧ RFE t G (lso j) (plc t (lso j) (lfi j) (lse j) (lth j)))) → GS h h' I I' t G → Q (some (vi 0)) h' nx) → ma_J none mX12_goFirst (d + 8) 0 0 2 [some (vr 73), some (vi w), some (vi k)] [] h nx Q := by
  intro m
  induction m with
  | zero => intro k h I W A k0 k1 km; omega
  | succ m ih =>
    intro k h I W A k0 k1 km hM hS h100 h107 hA hk K1 K0
    refine ma_iload_n dX12_goFirst_2 rfl ?_
    refine ma_bipush dX12_goFirst_3 ?_
    refine ma_rcmp_ge 55 dX12_goFirst_5 rfl (by constructor <;> omega) (by constructor <;> omega) (fun c5 => ?_) (fun c5 => ?_)
    · -- 55
      refine ma_iconst dX12_goFirst_55 ?_
      exact ma_zret dX12_goFirst_56 rfl (Or.inl rfl) (K0 h I (fun j j0 j1 e => hk j j0 (by omega) e) ⟨kp_rf _ _, hM, fun _ _ _ _ _ _ _ _ => rfl, hS, ⟨W, h100⟩, A, h107, hA⟩)
    · -- 8
      refine ma_aload_n dX12_goFirst_8 rfl ?_
      refine ma_iload_n dX12_goFirst_9 rfl ?_
      refine ma_cV [_] dX12_goFirst_10 wX12_layPlace lX12_469 iX12_layPlace sX12_layPlace rfl (by first | exact mj_73 _ _ | exact hM | exact gp.2.1 | exact m1 | exact e107) (Nat.le_of_ble_eq_true rfl) ?_
      rw [← ma_up_id hM]
      refine c_X12_layPlace k0 (by omega) (fun J' hJ => ?_)
      refine ma_aload_n dX12_goFirst_13 rfl ?_
      refine ma_getf dX12_goFirst_14 fX12_460 (by first | exact mj_73 _ _ | exact hM | exact gp.2.1 | exact m1 | exact e107) (by rfl) ?_
      rw [hJ.1]
      refine ma_iload_n dX12_goFirst_17 rfl ?_
      have lb := l_in k0 (show k < 120 by omega)
      refine ma_rcmp_ne 49 dX12_goFirst_18 rfl (by constructor <;> omega) (by constructor <;> omega) (fun c18 => ?_) (fun c18 => ?_)
      · -- 49
        refine ma_iincN dX12_goFirst_49 rfl (by decide) rfl ?_
        refine ma_goto 2 dX12_goFirst_52 rfl ?_
        have gs0 : GS h (mj h J') I J' t G := ⟨kp_up (by simp) (kp_rf _ _), mj_73 _ _, fun j a b c e f g h3 => hJ.2.2.2.2 j e f g h3, smo_n (by decide) (by decide) hS, ⟨W, (ma_up_n (by decide)).trans h100⟩, A, (ma_up_n (by decide)).trans h107, hA⟩
        refine ih (k + 1) _ J' W A (by omega) (by omega) (by omega) (mj_73 _ _) (smo_n (by decide) (by decide) hS) ((ma_up_n (by decide)).trans h100) ((ma_up_n (by decide)).trans h107) hA (fun j j0 j1 e => by
          rcases Int.lt_or_eq_of_le (show j ≤ k by omega) with z | z
          · exact hk j j0 z e
          · rw [z] at e ⊢; exact absurd e c18) (fun k2 h2 I2 f2 g2 => K1 k2 h2 I2 f2 (gs_tr gs0 g2)) (fun h2 I2 f2 g2 => K0 h2 I2 f2 (gs_tr gs0 g2))
      · -- 21
        have ew : lso k = w := c18
        refine ma_aload_n dX12_goFirst_21 rfl ?_
        refine ma_aload_n dX12_goFirst_22 rfl ?_
        refine ma_getf dX12_goFirst_23 fX12_112 (by first | exact mj_73 _ _ | exact hM | exact gp.2.1 | exact m1 | exact e107) (by rfl) ?_
        refine ma_iload_n dX12_goFirst_26 rfl ?_
        refine ma_cV [_, _] dX12_goFirst_27 wX12_goPlace lX12_475 iX12_goPlace sX12_goPlace rfl (by first | exact mj_73 _ _ | exact hM | exact gp.2.1 | exact m1 | exact e107) (Nat.le_of_ble_eq_true rfl) ?_
        refine c_X12_goPlace (b := 107) (mj_73 _ _) (smo_n (by decide) (by decide) hS) ((ma_up_n (by decide)).trans h107) (by decide) ((ma_up_n (by decide)).trans h100) hG hC hA k0 (by omega) (t1 := t1) (G1 := G1) (fun a b => hst k ⟨⟨k0, by omega⟩, ew, ⟨a, b⟩, hk⟩) (fun h' I' nz gp => ?_) (fun h' I' A' yz gp m1 m2 => ?_)
        · -- k0
          refine ma_rif_ne 36 dX12_goFirst_30 rfl (by decide) (fun c30 => absurd c30 (by decide)) (fun c30 => ?_)
          refine ma_goto 49 dX12_goFirst_33 rfl ?_
          refine ma_iincN dX12_goFirst_49 rfl (by decide) rfl ?_
          refine ma_goto 2 dX12_goFirst_52 rfl ?_
          have e107 : h' 107 = ci 33 A := (gp.1 107 (by decide)).trans ((ma_up_n (by decide)).trans h107)
          obtain ⟨W', e100⟩ := gp.2.2.2.2.2
          have gs1 : GS h h' I I' t G := ⟨kp_tr (kp_up (by simp) (kp_rf _ _)) (kp_mo (by simp) gp.1), gp.2.1, fun j a b c e f g h3 => (gp.2.2.1 j a b c e f g h3).trans (hJ.2.2.2.2 j e f g h3), gp.2.2.2.2.1, ⟨W', e100⟩, A, e107, hA⟩
          refine ih (k + 1) h' I' W' A (by omega) (by omega) (by omega) gp.2.1 gp.2.2.2.2.1 e100 e107 hA (fun j j0 j1 e => by
            rcases Int.lt_or_eq_of_le (show j ≤ k by omega) with z | z
            · exact hk j j0 z e
            · rw [z] at e ⊢; exact nz) (fun k2 h2 I2 f2 g2 => K1 k2 h2 I2 f2 (gs_tr gs1 g2)) (fun h2 I2 f2 g2 => K0 h2 I2 f2 (gs_tr gs1 g2))
        · -- k1
          refine ma_rif_ne 36 dX12_goFirst_30 rfl (by decide) (fun c30 => ?_) (fun c30 => absurd c30 (by decide))
          refine ma_aload_n dX12_goFirst_36 rfl ?_
          refine ma_getf dX12_goFirst_37 fX12_90 (by first | exact mj_73 _ _ | exact hM | exact gp.2.1 | exact m1 | exact e107) (by rfl) ?_
          refine ma_aload_n dX12_goFirst_40 rfl ?_
          refine ma_getf dX12_goFirst_41 fX12_112 (by first | exact mj_73 _ _ | exact hM | exact gp.2.1 | exact m1 | exact e107) (by rfl) ?_
          refine ma_cS [_, _] dX12_goFirst_44 wX12_lay lX12_168 tX12_lay (Nat.le_of_ble_eq_true rfl) ?_
          refine c_X12_lay m1 ((gp.1 107 (by decide)).trans ((ma_up_n (by decide)).trans h107)) (by decide) ?_
          refine ma_iconst dX12_goFirst_47 ?_
          exact ma_zret dX12_goFirst_48 rfl (Or.inr rfl) (K1 k _ I' ⟨⟨k0, by omega⟩, ew, yz, hk⟩ ⟨kp_up (by simp) (kp_tr (kp_up (by simp) (kp_rf _ _)) (kp_mo (by simp) gp.1)), (ma_up_n (by decide)).trans gp.2.1, fun j a b c e f g h3 => (gp.2.2.1 j a b c e f g h3).trans (hJ.2.2.2.2 j e f g h3), smo_n (by decide) (by decide) gp.2.2.2.2.1, ⟨A', (ma_up_n (by decide)).trans m1⟩, A', ma_up_s _ _ _, m2⟩)
theorem c_X12_goFirst {h : ma_H} {nx d : Nat} {t t1 w : Int} {I : Nat → Int} {G G1 W A : Int → Int} {Q : Option ma_V → ma_H → Nat → Prop} (hM : h 73 = co 12 (mo I)) (hS : SMO h) (h100 : h 100 = ci 33 W) (h107 : h 107 = ci 33 A) (hA : AG t G A) (hG : VG t G) (hC : CN t G) (w0 : 0 ≤ w ∧ w < 4) (hst : ∀ k, FM t G w k → STP t G (plc t (lso k) (lfi k) (lse k) (lth k)) t1 G1) (K1 : (∀ k h' I', FM t G w k → GS h h' I I' t1 G1 → Q (some (vi 1)) h' nx)) (K0 : (∀ h' I', (∀ j, 0 ≤ j → j < 120 → lso j = w → ¬ (lfi j < t ∧ RFE t G (lso j) (plc t (lso j) (lfi j) (lse j) (lth j)))) → GS h h' I I' t G → Q (some (vi 0)) h' nx)) : ma_Ct mX12_goFirst (d + 8) 0 0 [vr 73, vi w] h nx Q := by
  refine ma_Ct.of (by decide +kernel) (Nat.le_of_ble_eq_true rfl) ?_
  refine ma_iconst dX12_goFirst_0 ?_
  refine ma_istore_nN dX12_goFirst_1 (by decide) rfl ?_
  exact l_gf2 hG hC w0 hst 121 0 h I W A (by decide) (by decide) (by decide) hM hS h100 h107 hA (fun j j0 j1 => by omega) K1 K0
