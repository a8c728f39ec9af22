theorem shl_64 {n : Int} (h : 0 ≤ n ∧ n ≤ 6) : pShl 1 n ≤ 64 ∧ pcF (pShl 1 n - 1) ≤ 6 := by
  have key : ∀ j : Nat, j < 7 → pShl 1 j ≤ 64 ∧ pcF (pShl 1 j - 1) ≤ 6 := by decide +kernel
  have := key n.toNat (by omega)
  rwa [Int.toNat_of_nonneg h.1] at this
theorem pl_heq {G : PH} {a b c d e : Int → Int} {i v : Int} : sA (uA (uA (uA (uA (uA G 44 0 a) 45 0 b) 68 0 c) 44 0 d) 45 0 e) 68 0 i v = uA (uA (uA G 44 0 d) 45 0 e) 68 0 (upA c i v) := by
  refine PH_ext (fun c r k => rfl) (fun c r i => ?_) (fun _ _ _ => rfl)
  simp only [gA_sA, gA_uA, upA]
  (repeat' split) <;> first | rfl | omega
theorem pl_heq2 {G : PH} {a b c d e : Int → Int} : uA (uA (uA (uA (uA G 44 0 a) 45 0 b) 68 0 c) 44 0 d) 45 0 e = uA (uA (uA G 44 0 d) 45 0 e) 68 0 c := by
  refine PH_ext (fun c r k => rfl) (fun c r i => ?_) (fun _ _ _ => rfl)
  simp only [gA_uA]
  (repeat' split) <;> first | rfl | omega

theorem wd_m7_77 : Cond.methodLink "NameRolls$Ship" 77 M_X7_weighSets.1 ∈ UW := UW6_at 54 (by decide +kernel) rfl
theorem wd_s7_weighSets : Cond.selects M_X7_weighSets.1.cls M_X7_weighSets.1 M_X7_weighSets.1 ∈ UW := UWp_at 42 (by decide +kernel) rfl
theorem wd_c7_84 : Cond.constant "NameRolls$Ship" 84 (Int32.ofInt 1000000000) ∈ UW := UW6_at 59 (by decide +kernel) rfl
theorem wd_m11_195 : Cond.methodLink "NameRolls" 195 M_X7_plan.1 ∈ UW := UW6_at 50 (by decide +kernel) rfl
theorem wd_s7_plan : Cond.selects M_X7_plan.1.cls M_X7_plan.1 M_X7_plan.1 ∈ UW := UW6_at 52 (by decide +kernel) rfl
theorem r_7_plan_0 : RL M_X7_plan 0 1 1 := Or.inl ⟨1, by decide +kernel, rfl, rfl⟩
theorem r_7_plan_1 : RC M_X7_plan 1 0 2 := ⟨⟨by decide, by decide⟩, Or.inl ⟨by decide +kernel, rfl⟩⟩
theorem r_7_plan_2 : RC M_X7_plan 2 999 5 := ⟨⟨by decide, by decide⟩, Or.inr (Or.inr (Or.inl ⟨by decide +kernel, by decide, rfl⟩))⟩
theorem r_7_plan_5 : RKs M_X7_plan M_X11_within 5 3 8 := ⟨60, by decide +kernel, Or.inr (by decide +kernel), ok_M_X11_within, rfl⟩
theorem r_7_plan_8 : RB M_X7_plan 8 (.ifCond .eq) 32 11 := ⟨24, by decide +kernel, rfl, rfl⟩
theorem r_7_plan_32 : RC M_X7_plan 32 (-1) 33 := ⟨⟨by decide, by decide⟩, Or.inl ⟨by decide +kernel, rfl⟩⟩
theorem r_7_plan_33 : RW M_X7_plan 33 .ireturn 34 1 := ⟨by decide +kernel, rfl⟩
theorem r_7_plan_11 : RL M_X7_plan 11 2 12 := Or.inl ⟨2, by decide +kernel, rfl, rfl⟩
theorem r_7_plan_12 : RC M_X7_plan 12 0 13 := ⟨⟨by decide, by decide⟩, Or.inl ⟨by decide +kernel, rfl⟩⟩
theorem r_7_plan_13 : RC M_X7_plan 13 999 16 := ⟨⟨by decide, by decide⟩, Or.inr (Or.inr (Or.inl ⟨by decide +kernel, by decide, rfl⟩))⟩
theorem r_7_plan_16 : RKs M_X7_plan M_X11_within 16 3 19 := ⟨60, by decide +kernel, Or.inr (by decide +kernel), ok_M_X11_within, rfl⟩
theorem r_7_plan_19 : RB M_X7_plan 19 (.ifCond .eq) 32 22 := ⟨13, by decide +kernel, rfl, rfl⟩
theorem r_7_plan_22 : RL M_X7_plan 22 3 23 := Or.inl ⟨3, by decide +kernel, rfl, rfl⟩
theorem r_7_plan_23 : RC M_X7_plan 23 1 24 := ⟨⟨by decide, by decide⟩, Or.inl ⟨by decide +kernel, rfl⟩⟩
theorem r_7_plan_24 : RC M_X7_plan 24 30 26 := ⟨⟨by decide, by decide⟩, Or.inr (Or.inl ⟨by decide +kernel, by decide, rfl⟩)⟩
theorem r_7_plan_26 : RKs M_X7_plan M_X11_within 26 3 29 := ⟨60, by decide +kernel, Or.inr (by decide +kernel), ok_M_X11_within, rfl⟩
theorem r_7_plan_29 : RB M_X7_plan 29 (.ifCond .ne) 34 32 := ⟨5, by decide +kernel, rfl, rfl⟩
theorem r_7_plan_34 : RA M_X7_plan 34 0 35 := Or.inl ⟨0, by decide +kernel, rfl, rfl⟩
theorem r_7_plan_35 : RG M_X7_plan 35 7 2 38 := ⟨64, _, by decide +kernel, rfl, by decide, wd_f7_64, rfl, rfl⟩
theorem r_7_plan_38 : RB M_X7_plan 38 (.ifCond .ne) 44 41 := ⟨6, by decide +kernel, rfl, rfl⟩
theorem r_7_plan_44 : RC M_X7_plan 44 0 45 := ⟨⟨by decide, by decide⟩, Or.inl ⟨by decide +kernel, rfl⟩⟩
theorem r_7_plan_45 : RS M_X7_plan 45 4 47 := ⟨by decide, Or.inr ⟨by decide +kernel, rfl⟩⟩
theorem r_7_plan_47 : RL M_X7_plan 47 4 49 := Or.inr ⟨by decide +kernel, rfl⟩
theorem r_7_plan_49 : RA M_X7_plan 49 0 50 := Or.inl ⟨0, by decide +kernel, rfl, rfl⟩
theorem r_7_plan_50 : RG M_X7_plan 50 7 2 53 := ⟨64, _, by decide +kernel, rfl, by decide, wd_f7_64, rfl, rfl⟩
theorem r_7_plan_53 : RB M_X7_plan 53 (.if_icmp .ge) 127 56 := ⟨74, by decide +kernel, rfl, rfl⟩
theorem r_7_plan_127 : RA M_X7_plan 127 0 128 := Or.inl ⟨0, by decide +kernel, rfl, rfl⟩
theorem r_7_plan_128 : RL M_X7_plan 128 1 129 := Or.inl ⟨1, by decide +kernel, rfl, rfl⟩
theorem r_7_plan_129 : RL M_X7_plan 129 2 130 := Or.inl ⟨2, by decide +kernel, rfl, rfl⟩
theorem r_7_plan_130 : RKv M_X7_plan M_X7_weighSets 130 2 7 133 := ⟨77, by decide +kernel, wd_m7_77, ok_M_X7_weighSets, wd_s7_weighSets, rfl⟩
theorem r_7_plan_133 : RA M_X7_plan 133 0 134 := Or.inl ⟨0, by decide +kernel, rfl, rfl⟩
theorem r_7_plan_134 : RL M_X7_plan 134 3 135 := Or.inl ⟨3, by decide +kernel, rfl, rfl⟩
theorem r_7_plan_135 : RP M_X7_plan 135 7 10 138 := ⟨81, _, by decide +kernel, rfl, by decide, wd_f7_81, rfl, Or.inl rfl, rfl⟩
theorem r_7_plan_138 : RA M_X7_plan 138 0 139 := Or.inl ⟨0, by decide +kernel, rfl, rfl⟩
theorem r_7_plan_139 : RC M_X7_plan 139 1000000000 141 := ⟨⟨by decide, by decide⟩, Or.inr (Or.inr (Or.inr (Or.inl ⟨84, by decide +kernel, wd_c7_84, rfl⟩)))⟩
theorem r_7_plan_141 : RP M_X7_plan 141 7 13 144 := ⟨85, _, by decide +kernel, rfl, by decide, wd_f7_85, rfl, Or.inl rfl, rfl⟩
theorem r_7_plan_144 : RA M_X7_plan 144 0 145 := Or.inl ⟨0, by decide +kernel, rfl, rfl⟩
theorem r_7_plan_145 : RC M_X7_plan 145 0 146 := ⟨⟨by decide, by decide⟩, Or.inl ⟨by decide +kernel, rfl⟩⟩
theorem r_7_plan_146 : RC M_X7_plan 146 1 147 := ⟨⟨by decide, by decide⟩, Or.inl ⟨by decide +kernel, rfl⟩⟩
theorem r_7_plan_147 : RA M_X7_plan 147 0 148 := Or.inl ⟨0, by decide +kernel, rfl, rfl⟩
theorem r_7_plan_148 : RG M_X7_plan 148 7 2 151 := ⟨64, _, by decide +kernel, rfl, by decide, wd_f7_64, rfl, rfl⟩
theorem r_7_plan_151 : RW M_X7_plan 151 .ishl 152 1 := ⟨by decide +kernel, rfl⟩
theorem r_7_plan_152 : RC M_X7_plan 152 1 153 := ⟨⟨by decide, by decide⟩, Or.inl ⟨by decide +kernel, rfl⟩⟩
theorem r_7_plan_153 : RW M_X7_plan 153 .isub 154 1 := ⟨by decide +kernel, rfl⟩
theorem r_7_plan_154 : RA M_X7_plan 154 0 155 := Or.inl ⟨0, by decide +kernel, rfl, rfl⟩
theorem r_7_plan_155 : RG M_X7_plan 155 7 1 158 := ⟨50, _, by decide +kernel, rfl, by decide, wd_f7_50, rfl, rfl⟩
theorem r_7_plan_158 : RG M_X7_plan 158 1 2 161 := ⟨72, _, by decide +kernel, rfl, by decide, wd_f7_72, rfl, rfl⟩
theorem r_7_plan_161 : RC M_X7_plan 161 0 162 := ⟨⟨by decide, by decide⟩, Or.inl ⟨by decide +kernel, rfl⟩⟩
theorem r_7_plan_162 : RKv M_X7_plan M_X7_sailOn 162 4 7 165 := ⟨88, by decide +kernel, wd_m7_88, ok_M_X7_sailOn, wd_s7_sailOn, rfl⟩
theorem r_7_plan_165 : RA M_X7_plan 165 0 166 := Or.inl ⟨0, by decide +kernel, rfl, rfl⟩
theorem r_7_plan_166 : RC M_X7_plan 166 0 167 := ⟨⟨by decide, by decide⟩, Or.inl ⟨by decide +kernel, rfl⟩⟩
theorem r_7_plan_167 : RP M_X7_plan 167 7 2 170 := ⟨64, _, by decide +kernel, rfl, by decide, wd_f7_64, rfl, Or.inl rfl, rfl⟩
theorem r_7_plan_170 : RA M_X7_plan 170 0 171 := Or.inl ⟨0, by decide +kernel, rfl, rfl⟩
theorem r_7_plan_171 : RG M_X7_plan 171 7 13 174 := ⟨85, _, by decide +kernel, rfl, by decide, wd_f7_85, rfl, rfl⟩
theorem r_7_plan_174 : RW M_X7_plan 174 .ireturn 175 1 := ⟨by decide +kernel, rfl⟩
theorem r_7_plan_56 : RA M_X7_plan 56 0 57 := Or.inl ⟨0, by decide +kernel, rfl, rfl⟩
theorem r_7_plan_57 : RG M_X7_plan 57 7 0 60 := ⟨46, _, by decide +kernel, rfl, by decide, wd_f7_46, rfl, rfl⟩
theorem r_7_plan_60 : RA M_X7_plan 60 0 61 := Or.inl ⟨0, by decide +kernel, rfl, rfl⟩
theorem r_7_plan_61 : RG M_X7_plan 61 7 3 64 := ⟨11, _, by decide +kernel, rfl, by decide, wd_f7_11, rfl, rfl⟩
theorem r_7_plan_64 : RL M_X7_plan 64 4 66 := Or.inr ⟨by decide +kernel, rfl⟩
theorem r_7_plan_66 : RW M_X7_plan 66 .iaload 67 1 := ⟨by decide +kernel, rfl⟩
theorem r_7_plan_67 : RC M_X7_plan 67 16 69 := ⟨⟨by decide, by decide⟩, Or.inr (Or.inl ⟨by decide +kernel, by decide, rfl⟩)⟩
theorem r_7_plan_69 : RKv M_X7_plan M_X2_farFrom 69 2 2 72 := ⟨68, by decide +kernel, wd_m7_68, ok_M_X2_farFrom, wd_s2_farFrom, rfl⟩
theorem r_7_plan_72 : RS M_X7_plan 72 5 74 := ⟨by decide, Or.inr ⟨by decide +kernel, rfl⟩⟩
theorem r_7_plan_74 : RA M_X7_plan 74 0 75 := Or.inl ⟨0, by decide +kernel, rfl, rfl⟩
theorem r_7_plan_75 : RG M_X7_plan 75 7 4 78 := ⟨15, _, by decide +kernel, rfl, by decide, wd_f7_15, rfl, rfl⟩
theorem r_7_plan_78 : RL M_X7_plan 78 4 80 := Or.inr ⟨by decide +kernel, rfl⟩
theorem r_7_plan_80 : RW M_X7_plan 80 .iaload 81 1 := ⟨by decide +kernel, rfl⟩
theorem r_7_plan_81 : RL M_X7_plan 81 1 82 := Or.inl ⟨1, by decide +kernel, rfl, rfl⟩
theorem r_7_plan_82 : RB M_X7_plan 82 (.if_icmp .gt) 101 85 := ⟨19, by decide +kernel, rfl, rfl⟩
theorem r_7_plan_101 : RC M_X7_plan 101 (-4) 103 := ⟨⟨by decide, by decide⟩, Or.inr (Or.inl ⟨by decide +kernel, by decide, rfl⟩)⟩
theorem r_7_plan_103 : RW M_X7_plan 103 .ireturn 104 1 := ⟨by decide +kernel, rfl⟩
theorem r_7_plan_85 : RA M_X7_plan 85 0 86 := Or.inl ⟨0, by decide +kernel, rfl, rfl⟩
theorem r_7_plan_86 : RG M_X7_plan 86 7 5 89 := ⟨18, _, by decide +kernel, rfl, by decide, wd_f7_18, rfl, rfl⟩
theorem r_7_plan_89 : RL M_X7_plan 89 4 91 := Or.inr ⟨by decide +kernel, rfl⟩
theorem r_7_plan_91 : RW M_X7_plan 91 .iaload 92 1 := ⟨by decide +kernel, rfl⟩
theorem r_7_plan_92 : RL M_X7_plan 92 2 93 := Or.inl ⟨2, by decide +kernel, rfl, rfl⟩
theorem r_7_plan_93 : RB M_X7_plan 93 (.if_icmp .gt) 101 96 := ⟨8, by decide +kernel, rfl, rfl⟩
theorem r_7_plan_96 : RL M_X7_plan 96 5 98 := Or.inr ⟨by decide +kernel, rfl⟩
theorem r_7_plan_98 : RB M_X7_plan 98 (.ifCond .ge) 104 101 := ⟨6, by decide +kernel, rfl, rfl⟩
theorem r_7_plan_104 : RA M_X7_plan 104 0 105 := Or.inl ⟨0, by decide +kernel, rfl, rfl⟩
theorem r_7_plan_105 : RG M_X7_plan 105 7 6 108 := ⟨21, _, by decide +kernel, rfl, by decide, wd_f7_21, rfl, rfl⟩
theorem r_7_plan_108 : RL M_X7_plan 108 4 110 := Or.inr ⟨by decide +kernel, rfl⟩
theorem r_7_plan_110 : RA M_X7_plan 110 0 111 := Or.inl ⟨0, by decide +kernel, rfl, rfl⟩
theorem r_7_plan_111 : RG M_X7_plan 111 7 1 114 := ⟨50, _, by decide +kernel, rfl, by decide, wd_f7_50, rfl, rfl⟩
theorem r_7_plan_114 : RG M_X7_plan 114 1 2 117 := ⟨72, _, by decide +kernel, rfl, by decide, wd_f7_72, rfl, rfl⟩
theorem r_7_plan_117 : RL M_X7_plan 117 5 119 := Or.inr ⟨by decide +kernel, rfl⟩
theorem r_7_plan_119 : RW M_X7_plan 119 .iadd 120 1 := ⟨by decide +kernel, rfl⟩
theorem r_7_plan_120 : RW M_X7_plan 120 .iastore 121 1 := ⟨by decide +kernel, rfl⟩
theorem r_7_plan_121 : RI M_X7_plan 121 4 1 124 := ⟨by decide, by decide +kernel, rfl⟩
theorem r_7_plan_124 : RB M_X7_plan 124 .goto 47 127 := ⟨(-77), by decide +kernel, rfl, rfl⟩
theorem r_7_plan_41 : RC M_X7_plan 41 (-3) 43 := ⟨⟨by decide, by decide⟩, Or.inr (Or.inl ⟨by decide +kernel, by decide, rfl⟩)⟩
theorem r_7_plan_43 : RW M_X7_plan 43 .ireturn 44 1 := ⟨by decide +kernel, rfl⟩
theorem r_11_sail_0 : RA M_X11_sail 0 0 1 := Or.inl ⟨0, by decide +kernel, rfl, rfl⟩
theorem r_11_sail_1 : RG M_X11_sail 1 11 6 4 := ⟨64, _, by decide +kernel, rfl, by decide, wd_f11_64, rfl, rfl⟩
theorem r_11_sail_4 : RL M_X11_sail 4 1 5 := Or.inl ⟨1, by decide +kernel, rfl, rfl⟩
theorem r_11_sail_5 : RL M_X11_sail 5 2 6 := Or.inl ⟨2, by decide +kernel, rfl, rfl⟩
theorem r_11_sail_6 : RL M_X11_sail 6 3 7 := Or.inl ⟨3, by decide +kernel, rfl, rfl⟩
theorem r_11_sail_7 : RKv M_X11_sail M_X7_plan 7 3 7 10 := ⟨195, by decide +kernel, wd_m11_195, ok_M_X7_plan, wd_s7_plan, rfl⟩
theorem r_11_sail_10 : RW M_X11_sail 10 .ireturn 11 1 := ⟨by decide +kernel, rfl⟩
set_option maxRecDepth 10000 in
theorem sp_X7_plan {l : Launch} {w : Wo} {d : Nat} {G : PH} {P : Option PV → PH → Prop} {s f u : Int} (hc : 0 ≤ (gF G 2 0 2) ∧ (gF G 2 0 2) ≤ 16) (hr : ∀ k, 0 ≤ k → k < 324 → 0 ≤ (gA G 43 0 (k)) ∧ (gA G 43 0 (k)) ≤ 9) (hto : 0 ≤ (gF G 7 0 2) ∧ (gF G 7 0 2) ≤ 6) (hg : ∀ i, 0 ≤ i → i < (gF G 7 0 2) → (0 ≤ (gA G 66 0 (i)) ∧ (gA G 66 0 (i)) ≤ 99) ∧ 0 ≤ (gA G 67 0 (i)) ∧ (gA G 67 0 (i)) ≤ 99) (hcm : ∀ i, 0 ≤ i → i < (gF G 7 0 2) → 0 ≤ (gA G 65 0 (i)) ∧ (gA G 65 0 (i)) < (gF G 2 0 2)) (hdy : 0 ≤ (gF G 1 0 2) ∧ (gF G 1 0 2) ≤ 600) (h1 : ¬ ((0 ≤ s ∧ s ≤ 999) ∧ (0 ≤ f ∧ f ≤ 999) ∧ 1 ≤ u ∧ u ≤ 30) → P (some (vI (-1))) G) (h2 : ((0 ≤ s ∧ s ≤ 999) ∧ (0 ≤ f ∧ f ≤ 999) ∧ 1 ≤ u ∧ u ≤ 30) → (gF G 7 0 2) = 0 → P (some (vI (-3))) G) (h3 : ((0 ≤ s ∧ s ≤ 999) ∧ (0 ≤ f ∧ f ≤ 999) ∧ 1 ≤ u ∧ u ≤ 30) → (gF G 7 0 2) ≠ 0 → ∀ (i : Int) (Dx fx R : Int → Int), 0 ≤ i → i < (gF G 7 0 2) → (s < (gA G 66 0 (i)) ∨ f < (gA G 67 0 (i)) ∨ nfC G (gA G 65 0 (i))) → P (some (vI (-4))) (uA (uA (uA G 44 0 (Dx)) 45 0 (fx)) 68 0 (R))) (h4 : ((0 ≤ s ∧ s ≤ 999) ∧ (0 ≤ f ∧ f ≤ 999) ∧ 1 ≤ u ∧ u ≤ 30) → (gF G 7 0 2) ≠ 0 → ∀ (Dx fx R pe re fi : Int → Int) (q : SSt), (∀ y, 0 ≤ y → y < (gF G 7 0 2) → (gA G 66 0 (y)) ≤ s ∧ (gA G 67 0 (y)) ≤ f ∧ fgC G (gA G 65 0 (y)) (R y - (gF G 1 0 2))) → q = saiN (fun x => sbI (gA G 66 0) x (gF G 7 0 2) ≤ s ∧ sbI (gA G 67 0) x (gF G 7 0 2) ≤ f) (fun x => sbI (gA G 66 0) x (gF G 7 0 2) + sbI (gA G 67 0) x (gF G 7 0 2)) (fun y x => mxI R x y (gF G 7 0 2)) u 7 0 (pShl 1 (gF G 7 0 2) - 1) (gF G 1 0 2) 0 (gA G 72 0, gA G 73 0, 1000000000, gF G 7 0 16, gA G 74 0, gA G 75 0) → P (some (vI q.2.2.1)) (sF (shpC (sF (sF (uA (uA (uA (uA (uA (uA G 44 0 (Dx)) 45 0 (fx)) 68 0 (R)) 70 0 (pe)) 71 0 (re)) 69 0 (fi)) 7 0 10 (u)) 7 0 13 (1000000000)) q) 7 0 2 (0))) : PW l w M_X7_plan (d + 16) 0 [some (vR 7 (0)), some (vI (s)), some (vI (f)), some (vI (u)), none, none] [] G P := by
  have hsh := shl_in (n := (gF G 7 0 2)) (by omega)
  have hs64 : pShl 1 (gF G 7 0 2) ≤ 64 ∧ pcF (pShl 1 (gF G 7 0 2) - 1) ≤ 6 := shl_64 hto
  refine pw_iload r_7_plan_0 rfl ?_
  refine pw_const r_7_plan_1 ?_
  refine pw_const r_7_plan_2 ?_
  refine pw_callS (av := [vI (s), vI (0), vI (999)]) (st := []) (ls0 := [some (vI (s)), some (vI (0)), some (vI (999))]) r_7_plan_5 rfl rfl rfl (Nat.le_refl _) ?_
  refine sp_X11_within  ?_
  refine pw_if_eqB r_7_plan_8 (fun h08 => ?_) (fun h08 => ?_)
  · skip
    refine pw_const r_7_plan_32 ?_
    refine pw_iret r_7_plan_33 rfl (Nat.le_refl _) ⟨rfl, ?_⟩
    first | exact h1 (by omega) | exact h4 (by omega) (by omega) Dx fx R pe re fi q hR hrec
  · skip
    refine pw_iload r_7_plan_11 rfl ?_
    refine pw_const r_7_plan_12 ?_
    refine pw_const r_7_plan_13 ?_
    refine pw_callS (av := [vI (f), vI (0), vI (999)]) (st := []) (ls0 := [some (vI (f)), some (vI (0)), some (vI (999))]) r_7_plan_16 rfl rfl rfl (Nat.le_refl _) ?_
    refine sp_X11_within  ?_
    refine pw_if_eqB r_7_plan_19 (fun h19 => ?_) (fun h19 => ?_)
    · skip
      refine pw_const r_7_plan_32 ?_
      refine pw_iret r_7_plan_33 rfl (Nat.le_refl _) ⟨rfl, ?_⟩
      first | exact h1 (by omega) | exact h4 (by omega) (by omega) Dx fx R pe re fi q hR hrec
    · skip
      refine pw_iload r_7_plan_22 rfl ?_
      refine pw_const r_7_plan_23 ?_
      refine pw_const r_7_plan_24 ?_
      refine pw_callS (av := [vI (u), vI (1), vI (30)]) (st := []) (ls0 := [some (vI (u)), some (vI (1)), some (vI (30))]) r_7_plan_26 rfl rfl rfl (Nat.le_refl _) ?_
      refine sp_X11_within  ?_
      refine pw_if_neB r_7_plan_29 (fun h29 => ?_) (fun h29 => ?_)
      · skip
        refine pw_aload r_7_plan_34 rfl ?_
        refine pw_getI r_7_plan_35 fs_7_2 (by decide) ?_
        refine pw_if_ne r_7_plan_38 (fun h38 => ?_) (fun h38 => ?_)
        · skip
          refine pw_const r_7_plan_44 ?_
          refine pw_istore (ls' := [some (vR 7 (0)), some (vI (s)), some (vI (f)), some (vI (u)), some (vI (0)), none]) r_7_plan_45 rfl rfl ?_
          have L47 : ∀ (nF : Nat) (i : Int) (Dx fx R : Int → Int), (hi : 0 ≤ i ∧ i ≤ (gF G 7 0 2)) → (hR : ∀ y, 0 ≤ y → y < i → (gA G 66 0 (y)) ≤ s ∧ (gA G 67 0 (y)) ≤ f ∧ fgC G (gA G 65 0 (y)) (R y - (gF G 1 0 2))) → ((gF G 7 0 2) - i).toNat < nF → PW l w M_X7_plan (d + 16) 47 [some (vR 7 (0)), some (vI (s)), some (vI (f)), some (vI (u)), some (vI (i)), none] [] (uA (uA (uA G 44 (0) (Dx)) 45 (0) (fx)) 68 (0) (R)) P := by
            intro nF
            induction nF with
            | zero => intro _ _ _ _ _ _ hM; exact absurd hM (Nat.not_lt_zero _)
            | succ nF ih47 =>
              intro i Dx fx R hi hR hM47
              refine pw_iload r_7_plan_47 rfl ?_
              refine pw_aload r_7_plan_49 rfl ?_
              refine pw_getIv (v := gF G 7 (0) 2) r_7_plan_50 fs_7_2 (by decide) (by first | rfl | simp [gF_sF, gF_sA, gF_uA, gF_sD, gA_sF, gA_sA, gA_uA, gA_sD, gD_sF, gD_sA, gD_uA, gD_sD]) ?_
              refine pw_icmp_ge r_7_plan_53 (fun h53 => ?_) (fun h53 => ?_)
              · skip
                have eT : i = (gF G 7 0 2) := by omega
                rw [eT] at hR
                have hR7 : ∀ y, 0 ≤ y → y < (gF G 7 0 2) → R y ≤ 762 := fun y y0 y1 => by have h9 := fgC_in (hR y y0 y1).2.2; omega
                refine pw_aload r_7_plan_127 rfl ?_
                refine pw_iload r_7_plan_128 rfl ?_
                refine pw_iload r_7_plan_129 rfl ?_
                refine pw_callV (av := [vI (s), vI (f)]) (st := []) (ls0 := [some (vR 7 (0)), some (vI (s)), some (vI (f)), none, none, none, none]) r_7_plan_130 rfl rfl rfl (Nat.le_refl _) ?_
                refine sp_X7_weighSets (by exact hto) (by exact hs64.1) (by exact hg) (by exact hR7) (by omega) (by omega) ?_
                intro pe re fi hws
                refine pw_aload r_7_plan_133 rfl ?_
                refine pw_iload r_7_plan_134 rfl ?_
                refine pw_putI r_7_plan_135 (by decide +kernel) fs_7_10 (by decide) ?_
                refine pw_aload r_7_plan_138 rfl ?_
                refine pw_const r_7_plan_139 ?_
                refine pw_putI r_7_plan_141 (by decide +kernel) fs_7_13 (by decide) ?_
                refine pw_aload r_7_plan_144 rfl ?_
                refine pw_const r_7_plan_145 ?_
                refine pw_const r_7_plan_146 ?_
                refine pw_aload r_7_plan_147 rfl ?_
                refine pw_getIv (v := gF G 7 (0) 2) r_7_plan_148 fs_7_2 (by decide) (by first | rfl | simp [gF_sF, gF_sA, gF_uA, gF_sD, gA_sF, gA_sA, gA_uA, gA_sD, gD_sF, gD_sA, gD_uA, gD_sD]) ?_
                refine pw_ishl r_7_plan_151 ?_
                refine pw_const r_7_plan_152 ?_
                refine pw_isub r_7_plan_153 (by omega) ?_
                refine pw_aload r_7_plan_154 rfl ?_
                refine pw_getR r_7_plan_155 fs_7_1 (by decide) ?_
                refine pw_getIv (v := gF G 1 (0) 2) r_7_plan_158 fs_1_2 (by decide) (by first | rfl | simp [gF_sF, gF_sA, gF_uA, gF_sD, gA_sF, gA_sA, gA_uA, gA_sD, gD_sF, gD_sA, gD_uA, gD_sD]) ?_
                refine pw_const r_7_plan_161 ?_
                refine pw_callV (av := [vI (0), vI (((pShl 1 (gF G 7 (0) 2)) - 1)), vI (gF G 1 (0) 2), vI (0)]) (st := []) (ls0 := [some (vR 7 (0)), some (vI (0)), some (vI (((pShl 1 (gF G 7 (0) 2)) - 1))), some (vI (gF G 1 (0) 2)), some (vI (0)), none]) r_7_plan_162 rfl rfl rfl (Nat.le_refl _) ?_
                refine sp_X7_sailOn (7) (d := d) (i := (0 : Int)) (r := (pShl 1 (gF G 7 0 2) - 1)) (f := (gF G 1 0 2)) (m := (0 : Int)) (FT := (fun x => sbI (gA G 66 0) x (gF G 7 0 2) ≤ s ∧ sbI (gA G 67 0) x (gF G 7 0 2) ≤ f)) (PP := (fun x => sbI (gA G 66 0) x (gF G 7 0 2) + sbI (gA G 67 0) x (gF G 7 0 2))) (DY := (fun y x => mxI R x y (gF G 7 0 2))) (tn := u) (by omega) (by exact hto) (by exact hs64.1) (by exact ⟨by decide, by decide, by have := hs64.2; omega⟩) (by exact ⟨by omega, by show pShl 1 (gF G 7 0 2) - 1 < pShl 1 (gF G 7 0 2); omega⟩) (by exact hdy.1) (by exact ⟨by exact Int.le_refl _, by show (gF G 1 0 2) ≤ 762 + 30 * 0; omega⟩) (by omega) (by exact ⟨rfl, by omega, by omega⟩) (by exact fun x x0 x1 => tb_of hto hg hR7 (hws x x0 x1)) ?_
                intro q hrec
                refine pw_aload r_7_plan_165 rfl ?_
                refine pw_const r_7_plan_166 ?_
                refine pw_putI r_7_plan_167 (by decide +kernel) fs_7_2 (by decide) ?_
                refine pw_aload r_7_plan_170 rfl ?_
                refine pw_getIv (v := gF (shpC (sF (sF (uA (uA (uA (uA (uA (uA G 44 (0) (Dx)) 45 (0) (fx)) 68 (0) (R)) 70 (0) (pe)) 71 (0) (re)) 69 (0) (fi)) 7 (0) 10 (u)) 7 (0) 13 (1000000000)) q) 7 (0) 13) r_7_plan_171 fs_7_13 (by decide) (by first | rfl | simp [gF_sF, gF_sA, gF_uA, gF_sD, gA_sF, gA_sA, gA_uA, gA_sD, gD_sF, gD_sA, gD_uA, gD_sD]) ?_
                refine pw_iret r_7_plan_174 rfl (Nat.le_refl _) ⟨rfl, ?_⟩
                first | exact h1 (by omega) | exact h4 (by omega) (by omega) Dx fx R pe re fi q hR hrec
              · skip
                refine pw_aload r_7_plan_56 rfl ?_
                refine pw_getR r_7_plan_57 fs_7_0 (by decide) ?_
                refine pw_aload r_7_plan_60 rfl ?_
                refine pw_getR r_7_plan_61 fs_7_3 (by decide) ?_
                refine pw_iload r_7_plan_64 rfl ?_
                refine pw_ialdv (v := gA G 65 (0) (i)) r_7_plan_66 sh65 (by omega) (by omega) (by first | rfl | simp [gF_sF, gF_sA, gF_uA, gF_sD, gA_sF, gA_sA, gA_uA, gA_sD, gD_sF, gD_sA, gD_uA, gD_sD]) ?_
                refine pw_const r_7_plan_67 ?_
                refine pw_callV (av := [vI (gA G 65 (0) (i)), vI (16)]) (st := []) (ls0 := [some (vR 2 (0)), some (vI (gA G 65 (0) (i))), some (vI (16)), none, none]) r_7_plan_69 rfl rfl rfl (Nat.le_refl _) ?_
                refine sp_X2_farFrom (by exact hc) (by exact hr) ?_ ?_
                · skip
                  intro qf; exact absurd (show _ ∧ _ from ⟨hcm i hi.1 (by omega), Or.inr (Or.inl rfl)⟩) qf
                · skip
                  intro qf1 qf2 Dr fr hDr hbr rr hrr
                  refine pw_istore (ls' := [some (vR 7 (0)), some (vI (s)), some (vI (f)), some (vI (u)), some (vI (i)), some (vI (rr))]) r_7_plan_72 rfl rfl ?_
                  refine pw_aload r_7_plan_74 rfl ?_
                  refine pw_getR r_7_plan_75 fs_7_4 (by decide) ?_
                  refine pw_iload r_7_plan_78 rfl ?_
                  refine pw_ialdv (v := gA G 66 (0) (i)) r_7_plan_80 sh66 (by omega) (by omega) (by first | rfl | simp [gF_sF, gF_sA, gF_uA, gF_sD, gA_sF, gA_sA, gA_uA, gA_sD, gD_sF, gD_sA, gD_uA, gD_sD]) ?_
                  refine pw_iload r_7_plan_81 rfl ?_
                  refine pw_icmp_gt r_7_plan_82 (fun h82 => ?_) (fun h82 => ?_)
                  · skip
                    refine pw_const r_7_plan_101 ?_
                    refine pw_iret r_7_plan_103 rfl (Nat.le_refl _) ⟨rfl, ?_⟩
                    rw [pl_heq2]; first | exact h3 (by omega) (by omega) i Dr fr R hi.1 (by omega) (Or.inl (by omega)) | exact h3 (by omega) (by omega) i Dr fr R hi.1 (by omega) (Or.inr (Or.inl (by omega))) | exact h3 (by omega) (by omega) i Dr fr R hi.1 (by omega) (Or.inr (Or.inr ⟨Dr, hDr, hbr, by omega⟩))
                  · skip
                    refine pw_aload r_7_plan_85 rfl ?_
                    refine pw_getR r_7_plan_86 fs_7_5 (by decide) ?_
                    refine pw_iload r_7_plan_89 rfl ?_
                    refine pw_ialdv (v := gA G 67 (0) (i)) r_7_plan_91 sh67 (by omega) (by omega) (by first | rfl | simp [gF_sF, gF_sA, gF_uA, gF_sD, gA_sF, gA_sA, gA_uA, gA_sD, gD_sF, gD_sA, gD_uA, gD_sD]) ?_
                    refine pw_iload r_7_plan_92 rfl ?_
                    refine pw_icmp_gt r_7_plan_93 (fun h93 => ?_) (fun h93 => ?_)
                    · skip
                      refine pw_const r_7_plan_101 ?_
                      refine pw_iret r_7_plan_103 rfl (Nat.le_refl _) ⟨rfl, ?_⟩
                      rw [pl_heq2]; first | exact h3 (by omega) (by omega) i Dr fr R hi.1 (by omega) (Or.inl (by omega)) | exact h3 (by omega) (by omega) i Dr fr R hi.1 (by omega) (Or.inr (Or.inl (by omega))) | exact h3 (by omega) (by omega) i Dr fr R hi.1 (by omega) (Or.inr (Or.inr ⟨Dr, hDr, hbr, by omega⟩))
                    · skip
                      refine pw_iload r_7_plan_96 rfl ?_
                      refine pw_if_ge r_7_plan_98 (fun h98 => ?_) (fun h98 => ?_)
                      · skip
                        have hDt := hDr.2.1 16 (by omega) (by omega)
                        have hbt := hbr 16 (by omega) (by omega)
                        refine pw_aload r_7_plan_104 rfl ?_
                        refine pw_getR r_7_plan_105 fs_7_6 (by decide) ?_
                        refine pw_iload r_7_plan_108 rfl ?_
                        refine pw_aload r_7_plan_110 rfl ?_
                        refine pw_getR r_7_plan_111 fs_7_1 (by decide) ?_
                        refine pw_getIv (v := gF G 1 (0) 2) r_7_plan_114 fs_1_2 (by decide) (by first | rfl | simp [gF_sF, gF_sA, gF_uA, gF_sD, gA_sF, gA_sA, gA_uA, gA_sD, gD_sF, gD_sA, gD_uA, gD_sD]) ?_
                        refine pw_iload r_7_plan_117 rfl ?_
                        refine pw_iadd r_7_plan_119 (by omega) ?_
                        refine pw_iast r_7_plan_120 sh68 (by omega) (by omega) ?_
                        refine pw_iinc (b := 0) (ls' := [some (vR 7 (0)), some (vI (s)), some (vI (f)), some (vI (u)), some (vI ((i + 1))), some (vI (rr))]) r_7_plan_121 rfl rfl (by omega) rfl ?_
                        refine pw_goto r_7_plan_124 ?_
                        refine pw_weakL (ls' := [some (vR 7 (0)), some (vI (s)), some (vI (f)), some (vI (u)), some (vI ((i + 1))), none]) (⟨rfl, ⟨rfl, ⟨rfl, ⟨rfl, ⟨rfl, trivial⟩⟩⟩⟩⟩) ?_
                        refine pw_eqG (G' := uA (uA (uA G 44 (0) (Dr)) 45 (0) (fr)) 68 (0) ((upA R i ((gF G 1 (0) 2) + rr)))) (pl_heq) ?_
                        exact ih47 ((i + 1)) (Dr) (fr) ((upA R i ((gF G 1 (0) 2) + rr))) (by first | assumption | omega) (fun y y0 y1 => by by_cases z : y = i; (rw [z]; exact ⟨by omega, by omega, Dr, hDr, hbr, by omega, by rw [upA_same]; omega⟩); (have h9 := hR y y0 (by omega); rw [upA_ne z]; exact h9)) (by omega)
                      · skip
                        have hDt := hDr.2.1 16 (by omega) (by omega)
                        refine pw_const r_7_plan_101 ?_
                        refine pw_iret r_7_plan_103 rfl (Nat.le_refl _) ⟨rfl, ?_⟩
                        rw [pl_heq2]; first | exact h3 (by omega) (by omega) i Dr fr R hi.1 (by omega) (Or.inl (by omega)) | exact h3 (by omega) (by omega) i Dr fr R hi.1 (by omega) (Or.inr (Or.inl (by omega))) | exact h3 (by omega) (by omega) i Dr fr R hi.1 (by omega) (Or.inr (Or.inr ⟨Dr, hDr, hbr, by omega⟩))
          refine pw_eqG (G' := uA (uA (uA G 44 (0) ((gA G 44 0))) 45 (0) ((gA G 45 0))) 68 (0) ((gA G 68 0))) (by rw [uA_own, uA_own, uA_own]) ?_
          exact L47 _ (0) ((gA G 44 0)) ((gA G 45 0)) ((gA G 68 0)) (by first | assumption | omega) (fun y y0 y1 => by omega) (Nat.lt_succ_self _)
        · skip
          refine pw_const r_7_plan_41 ?_
          refine pw_iret r_7_plan_43 rfl (Nat.le_refl _) ⟨rfl, ?_⟩
          exact h2 (by omega) (by omega)
      · skip
        refine pw_const r_7_plan_32 ?_
        refine pw_iret r_7_plan_33 rfl (Nat.le_refl _) ⟨rfl, ?_⟩
        first | exact h1 (by omega) | exact h4 (by omega) (by omega) Dx fx R pe re fi q hR hrec
set_option maxRecDepth 10000 in
theorem sp_X11_sail {l : Launch} {w : Wo} {d : Nat} {G : PH} {P : Option PV → PH → Prop} {s f u : Int} (hc : 0 ≤ (gF G 2 0 2) ∧ (gF G 2 0 2) ≤ 16) (hr : ∀ k, 0 ≤ k → k < 324 → 0 ≤ (gA G 43 0 (k)) ∧ (gA G 43 0 (k)) ≤ 9) (hto : 0 ≤ (gF G 7 0 2) ∧ (gF G 7 0 2) ≤ 6) (hg : ∀ i, 0 ≤ i → i < (gF G 7 0 2) → (0 ≤ (gA G 66 0 (i)) ∧ (gA G 66 0 (i)) ≤ 99) ∧ 0 ≤ (gA G 67 0 (i)) ∧ (gA G 67 0 (i)) ≤ 99) (hcm : ∀ i, 0 ≤ i → i < (gF G 7 0 2) → 0 ≤ (gA G 65 0 (i)) ∧ (gA G 65 0 (i)) < (gF G 2 0 2)) (hdy : 0 ≤ (gF G 1 0 2) ∧ (gF G 1 0 2) ≤ 600) (h1 : ¬ ((0 ≤ s ∧ s ≤ 999) ∧ (0 ≤ f ∧ f ≤ 999) ∧ 1 ≤ u ∧ u ≤ 30) → P (some (vI (-1))) G) (h2 : ((0 ≤ s ∧ s ≤ 999) ∧ (0 ≤ f ∧ f ≤ 999) ∧ 1 ≤ u ∧ u ≤ 30) → (gF G 7 0 2) = 0 → P (some (vI (-3))) G) (h3 : ((0 ≤ s ∧ s ≤ 999) ∧ (0 ≤ f ∧ f ≤ 999) ∧ 1 ≤ u ∧ u ≤ 30) → (gF G 7 0 2) ≠ 0 → ∀ (i : Int) (Dx fx R : Int → Int), 0 ≤ i → i < (gF G 7 0 2) → (s < (gA G 66 0 (i)) ∨ f < (gA G 67 0 (i)) ∨ nfC G (gA G 65 0 (i))) → P (some (vI (-4))) (uA (uA (uA G 44 0 (Dx)) 45 0 (fx)) 68 0 (R))) (h4 : ((0 ≤ s ∧ s ≤ 999) ∧ (0 ≤ f ∧ f ≤ 999) ∧ 1 ≤ u ∧ u ≤ 30) → (gF G 7 0 2) ≠ 0 → ∀ (Dx fx R pe re fi : Int → Int) (q : SSt), (∀ y, 0 ≤ y → y < (gF G 7 0 2) → (gA G 66 0 (y)) ≤ s ∧ (gA G 67 0 (y)) ≤ f ∧ fgC G (gA G 65 0 (y)) (R y - (gF G 1 0 2))) → q = saiN (fun x => sbI (gA G 66 0) x (gF G 7 0 2) ≤ s ∧ sbI (gA G 67 0) x (gF G 7 0 2) ≤ f) (fun x => sbI (gA G 66 0) x (gF G 7 0 2) + sbI (gA G 67 0) x (gF G 7 0 2)) (fun y x => mxI R x y (gF G 7 0 2)) u 7 0 (pShl 1 (gF G 7 0 2) - 1) (gF G 1 0 2) 0 (gA G 72 0, gA G 73 0, 1000000000, gF G 7 0 16, gA G 74 0, gA G 75 0) → P (some (vI q.2.2.1)) (sF (shpC (sF (sF (uA (uA (uA (uA (uA (uA G 44 0 (Dx)) 45 0 (fx)) 68 0 (R)) 70 0 (pe)) 71 0 (re)) 69 0 (fi)) 7 0 10 (u)) 7 0 13 (1000000000)) q) 7 0 2 (0))) : PW l w M_X11_sail (d + 17) 0 [some (vR 11 (0)), some (vI (s)), some (vI (f)), some (vI (u))] [] G P := by
  refine pw_aload r_11_sail_0 rfl ?_
  refine pw_getR r_11_sail_1 fs_11_6 (by decide) ?_
  refine pw_iload r_11_sail_4 rfl ?_
  refine pw_iload r_11_sail_5 rfl ?_
  refine pw_iload r_11_sail_6 rfl ?_
  refine pw_callV (av := [vI (s), vI (f), vI (u)]) (st := []) (ls0 := [some (vR 7 (0)), some (vI (s)), some (vI (f)), some (vI (u)), none, none]) r_11_sail_7 rfl rfl rfl (Nat.le_refl _) ?_
  refine sp_X7_plan (by first | assumption | exact hc | omega) (by first | assumption | exact hr | omega) (by first | assumption | exact hto | omega) (by first | assumption | exact hg | omega) (by first | assumption | exact hcm | omega) (by first | assumption | exact hdy | omega) ?_ ?_ ?_ ?_
  · skip
    intro q1
    refine pw_iret r_11_sail_10 rfl (Nat.le_refl _) ⟨rfl, ?_⟩
    exact h1 q1
  · skip
    intro q1 q2
    refine pw_iret r_11_sail_10 rfl (Nat.le_refl _) ⟨rfl, ?_⟩
    exact h2 q1 q2
  · skip
    intro q1 q2 i Dx fx R q3 q4 q5
    refine pw_iret r_11_sail_10 rfl (Nat.le_refl _) ⟨rfl, ?_⟩
    exact h3 q1 q2 i Dx fx R q3 q4 q5
  · skip
    intro q1 q2 Dx fx R pe re fi q q3 q4
    refine pw_iret r_11_sail_10 rfl (Nat.le_refl _) ⟨rfl, ?_⟩
    exact h4 q1 q2 Dx fx R pe re fi q q3 q4
