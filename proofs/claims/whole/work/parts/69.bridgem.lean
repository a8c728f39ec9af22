theorem wd_m12_486 : Cond.methodLink "NameRollsModel" 486 M_X12_choiceOf.1 ∈ UW := UW10_at 34 (by decide +kernel) rfl
theorem r_12_bridge_0 : RL M_X12_bridge 0 1 1 := Or.inl ⟨1, by decide +kernel, rfl, rfl⟩
theorem r_12_bridge_1 : RC M_X12_bridge 1 1 2 := ⟨⟨by decide, by decide⟩, Or.inl ⟨by decide +kernel, rfl⟩⟩
theorem r_12_bridge_2 : RC M_X12_bridge 2 3 3 := ⟨⟨by decide, by decide⟩, Or.inl ⟨by decide +kernel, rfl⟩⟩
theorem r_12_bridge_3 : RKs M_X12_bridge M_X12_within 3 3 6 := ⟨240, by decide +kernel, Or.inl wd_m12_240, ok_M_X12_within, rfl⟩
theorem r_12_bridge_6 : RB M_X12_bridge 6 (.ifCond .ne) 11 9 := ⟨5, by decide +kernel, rfl, rfl⟩
theorem r_12_bridge_11 : RA M_X12_bridge 11 0 12 := Or.inl ⟨0, by decide +kernel, rfl, rfl⟩
theorem r_12_bridge_12 : RG M_X12_bridge 12 12 83 15 := ⟨192, _, by decide +kernel, rfl, by decide, wd_f12_192, rfl, rfl⟩
theorem r_12_bridge_15 : RC M_X12_bridge 15 0 16 := ⟨⟨by decide, by decide⟩, Or.inl ⟨by decide +kernel, rfl⟩⟩
theorem r_12_bridge_16 : RW M_X12_bridge 16 .iaload 17 1 := ⟨by decide +kernel, rfl⟩
theorem r_12_bridge_17 : RB M_X12_bridge 17 (.ifCond .eq) 29 20 := ⟨12, by decide +kernel, rfl, rfl⟩
theorem r_12_bridge_29 : RC M_X12_bridge 29 (-3) 31 := ⟨⟨by decide, by decide⟩, Or.inr (Or.inl ⟨by decide +kernel, by decide, rfl⟩)⟩
theorem r_12_bridge_31 : RW M_X12_bridge 31 .ireturn 32 1 := ⟨by decide +kernel, rfl⟩
theorem r_12_bridge_20 : RA M_X12_bridge 20 0 21 := Or.inl ⟨0, by decide +kernel, rfl, rfl⟩
theorem r_12_bridge_21 : RG M_X12_bridge 21 12 83 24 := ⟨192, _, by decide +kernel, rfl, by decide, wd_f12_192, rfl, rfl⟩
theorem r_12_bridge_24 : RC M_X12_bridge 24 1 25 := ⟨⟨by decide, by decide⟩, Or.inl ⟨by decide +kernel, rfl⟩⟩
theorem r_12_bridge_25 : RW M_X12_bridge 25 .iaload 26 1 := ⟨by decide +kernel, rfl⟩
theorem r_12_bridge_26 : RB M_X12_bridge 26 (.ifCond .ne) 32 29 := ⟨6, by decide +kernel, rfl, rfl⟩
theorem r_12_bridge_32 : RA M_X12_bridge 32 0 33 := Or.inl ⟨0, by decide +kernel, rfl, rfl⟩
theorem r_12_bridge_33 : RL M_X12_bridge 33 1 34 := Or.inl ⟨1, by decide +kernel, rfl, rfl⟩
theorem r_12_bridge_34 : RP M_X12_bridge 34 12 85 37 := ⟨474, _, by decide +kernel, rfl, by decide, wd_f12_474, rfl, Or.inl rfl, rfl⟩
theorem r_12_bridge_37 : RC M_X12_bridge 37 0 38 := ⟨⟨by decide, by decide⟩, Or.inl ⟨by decide +kernel, rfl⟩⟩
theorem r_12_bridge_38 : RS M_X12_bridge 38 2 39 := ⟨by decide, Or.inl ⟨2, by decide +kernel, rfl, rfl⟩⟩
theorem r_12_bridge_39 : RL M_X12_bridge 39 2 40 := Or.inl ⟨2, by decide +kernel, rfl, rfl⟩
theorem r_12_bridge_40 : RC M_X12_bridge 40 12100 43 := ⟨⟨by decide, by decide⟩, Or.inr (Or.inr (Or.inl ⟨by decide +kernel, by decide, rfl⟩))⟩
theorem r_12_bridge_43 : RB M_X12_bridge 43 (.if_icmp .ge) 59 46 := ⟨16, by decide +kernel, rfl, rfl⟩
theorem r_12_bridge_59 : RA M_X12_bridge 59 0 60 := Or.inl ⟨0, by decide +kernel, rfl, rfl⟩
theorem r_12_bridge_60 : RC M_X12_bridge 60 0 61 := ⟨⟨by decide, by decide⟩, Or.inl ⟨by decide +kernel, rfl⟩⟩
theorem r_12_bridge_61 : RKv M_X12_bridge M_X12_minutesFrom 61 1 12 64 := ⟨480, by decide +kernel, wd_m12_480, ok_M_X12_minutesFrom, wd_s12_minutesFrom, rfl⟩
theorem r_12_bridge_64 : RS M_X12_bridge 64 2 65 := ⟨by decide, Or.inl ⟨2, by decide +kernel, rfl, rfl⟩⟩
theorem r_12_bridge_65 : RL M_X12_bridge 65 2 66 := Or.inl ⟨2, by decide +kernel, rfl, rfl⟩
theorem r_12_bridge_66 : RC M_X12_bridge 66 100000 69 := ⟨⟨by decide, by decide⟩, Or.inr (Or.inr (Or.inr (Or.inr ⟨260, by decide +kernel, wd_c12_260, rfl⟩)))⟩
theorem r_12_bridge_69 : RB M_X12_bridge 69 (.if_icmp .lt) 75 72 := ⟨6, by decide +kernel, rfl, rfl⟩
theorem r_12_bridge_75 : RC M_X12_bridge 75 0 76 := ⟨⟨by decide, by decide⟩, Or.inl ⟨by decide +kernel, rfl⟩⟩
theorem r_12_bridge_76 : RS M_X12_bridge 76 3 77 := ⟨by decide, Or.inl ⟨3, by decide +kernel, rfl, rfl⟩⟩
theorem r_12_bridge_77 : RA M_X12_bridge 77 0 78 := Or.inl ⟨0, by decide +kernel, rfl, rfl⟩
theorem r_12_bridge_78 : RL M_X12_bridge 78 2 79 := Or.inl ⟨2, by decide +kernel, rfl, rfl⟩
theorem r_12_bridge_79 : RP M_X12_bridge 79 12 87 82 := ⟨483, _, by decide +kernel, rfl, by decide, wd_f12_483, rfl, Or.inl rfl, rfl⟩
theorem r_12_bridge_82 : RC M_X12_bridge 82 0 83 := ⟨⟨by decide, by decide⟩, Or.inl ⟨by decide +kernel, rfl⟩⟩
theorem r_12_bridge_83 : RS M_X12_bridge 83 4 85 := ⟨by decide, Or.inr ⟨by decide +kernel, rfl⟩⟩
theorem r_12_bridge_85 : RL M_X12_bridge 85 4 87 := Or.inr ⟨by decide +kernel, rfl⟩
theorem r_12_bridge_87 : RL M_X12_bridge 87 2 88 := Or.inl ⟨2, by decide +kernel, rfl, rfl⟩
theorem r_12_bridge_88 : RB M_X12_bridge 88 (.if_icmp .ge) 166 91 := ⟨78, by decide +kernel, rfl, rfl⟩
theorem r_12_bridge_166 : RA M_X12_bridge 166 0 167 := Or.inl ⟨0, by decide +kernel, rfl, rfl⟩
theorem r_12_bridge_167 : RG M_X12_bridge 167 12 83 170 := ⟨192, _, by decide +kernel, rfl, by decide, wd_f12_192, rfl, rfl⟩
theorem r_12_bridge_170 : RC M_X12_bridge 170 0 171 := ⟨⟨by decide, by decide⟩, Or.inl ⟨by decide +kernel, rfl⟩⟩
theorem r_12_bridge_171 : RC M_X12_bridge 171 0 172 := ⟨⟨by decide, by decide⟩, Or.inl ⟨by decide +kernel, rfl⟩⟩
theorem r_12_bridge_172 : RW M_X12_bridge 172 .iastore 173 1 := ⟨by decide +kernel, rfl⟩
theorem r_12_bridge_173 : RA M_X12_bridge 173 0 174 := Or.inl ⟨0, by decide +kernel, rfl, rfl⟩
theorem r_12_bridge_174 : RG M_X12_bridge 174 12 83 177 := ⟨192, _, by decide +kernel, rfl, by decide, wd_f12_192, rfl, rfl⟩
theorem r_12_bridge_177 : RC M_X12_bridge 177 1 178 := ⟨⟨by decide, by decide⟩, Or.inl ⟨by decide +kernel, rfl⟩⟩
theorem r_12_bridge_178 : RC M_X12_bridge 178 0 179 := ⟨⟨by decide, by decide⟩, Or.inl ⟨by decide +kernel, rfl⟩⟩
theorem r_12_bridge_179 : RW M_X12_bridge 179 .iastore 180 1 := ⟨by decide +kernel, rfl⟩
theorem r_12_bridge_180 : RL M_X12_bridge 180 2 181 := Or.inl ⟨2, by decide +kernel, rfl, rfl⟩
theorem r_12_bridge_181 : RW M_X12_bridge 181 .ireturn 182 1 := ⟨by decide +kernel, rfl⟩
theorem r_12_bridge_91 : RC M_X12_bridge 91 0 92 := ⟨⟨by decide, by decide⟩, Or.inl ⟨by decide +kernel, rfl⟩⟩
theorem r_12_bridge_92 : RS M_X12_bridge 92 5 94 := ⟨by decide, Or.inr ⟨by decide +kernel, rfl⟩⟩
theorem r_12_bridge_94 : RA M_X12_bridge 94 0 95 := Or.inl ⟨0, by decide +kernel, rfl, rfl⟩
theorem r_12_bridge_95 : RL M_X12_bridge 95 3 96 := Or.inl ⟨3, by decide +kernel, rfl, rfl⟩
theorem r_12_bridge_96 : RL M_X12_bridge 96 5 98 := Or.inr ⟨by decide +kernel, rfl⟩
theorem r_12_bridge_98 : RKs M_X12_bridge M_X12_choiceOf 98 1 101 := ⟨486, by decide +kernel, Or.inl wd_m12_486, ok_M_X12_choiceOf, rfl⟩
theorem r_12_bridge_101 : RKv M_X12_bridge M_X12_behind 101 2 12 104 := ⟨477, by decide +kernel, wd_m12_477, ok_M_X12_behind, wd_s12_behind, rfl⟩
theorem r_12_bridge_104 : RB M_X12_bridge 104 (.ifCond .lt) 131 107 := ⟨27, by decide +kernel, rfl, rfl⟩
theorem r_12_bridge_131 : RI M_X12_bridge 131 5 1 134 := ⟨by decide, by decide +kernel, rfl⟩
theorem r_12_bridge_134 : RB M_X12_bridge 134 .goto 94 137 := ⟨(-40), by decide +kernel, rfl, rfl⟩
theorem r_12_bridge_107 : RC M_X12_bridge 107 1 108 := ⟨⟨by decide, by decide⟩, Or.inl ⟨by decide +kernel, rfl⟩⟩
theorem r_12_bridge_108 : RA M_X12_bridge 108 0 109 := Or.inl ⟨0, by decide +kernel, rfl, rfl⟩
theorem r_12_bridge_109 : RA M_X12_bridge 109 0 110 := Or.inl ⟨0, by decide +kernel, rfl, rfl⟩
theorem r_12_bridge_110 : RL M_X12_bridge 110 3 111 := Or.inl ⟨3, by decide +kernel, rfl, rfl⟩
theorem r_12_bridge_111 : RL M_X12_bridge 111 5 113 := Or.inr ⟨by decide +kernel, rfl⟩
theorem r_12_bridge_113 : RKs M_X12_bridge M_X12_choiceOf 113 1 116 := ⟨486, by decide +kernel, Or.inl wd_m12_486, ok_M_X12_choiceOf, rfl⟩
theorem r_12_bridge_116 : RKv M_X12_bridge M_X12_behind 116 2 12 119 := ⟨477, by decide +kernel, wd_m12_477, ok_M_X12_behind, wd_s12_behind, rfl⟩
theorem r_12_bridge_119 : RKv M_X12_bridge M_X12_minutesFrom 119 1 12 122 := ⟨480, by decide +kernel, wd_m12_480, ok_M_X12_minutesFrom, wd_s12_minutesFrom, rfl⟩
theorem r_12_bridge_122 : RW M_X12_bridge 122 .iadd 123 1 := ⟨by decide +kernel, rfl⟩
theorem r_12_bridge_123 : RA M_X12_bridge 123 0 124 := Or.inl ⟨0, by decide +kernel, rfl, rfl⟩
theorem r_12_bridge_124 : RL M_X12_bridge 124 3 125 := Or.inl ⟨3, by decide +kernel, rfl, rfl⟩
theorem r_12_bridge_125 : RKv M_X12_bridge M_X12_minutesFrom 125 1 12 128 := ⟨480, by decide +kernel, wd_m12_480, ok_M_X12_minutesFrom, wd_s12_minutesFrom, rfl⟩
theorem r_12_bridge_128 : RB M_X12_bridge 128 (.if_icmp .eq) 137 131 := ⟨9, by decide +kernel, rfl, rfl⟩
theorem r_12_bridge_137 : RA M_X12_bridge 137 0 138 := Or.inl ⟨0, by decide +kernel, rfl, rfl⟩
theorem r_12_bridge_138 : RG M_X12_bridge 138 12 86 141 := ⟨198, _, by decide +kernel, rfl, by decide, wd_f12_198, rfl, rfl⟩
theorem r_12_bridge_141 : RL M_X12_bridge 141 4 143 := Or.inr ⟨by decide +kernel, rfl⟩
theorem r_12_bridge_143 : RL M_X12_bridge 143 5 145 := Or.inr ⟨by decide +kernel, rfl⟩
theorem r_12_bridge_145 : RKs M_X12_bridge M_X12_choiceOf 145 1 148 := ⟨486, by decide +kernel, Or.inl wd_m12_486, ok_M_X12_choiceOf, rfl⟩
theorem r_12_bridge_148 : RW M_X12_bridge 148 .iastore 149 1 := ⟨by decide +kernel, rfl⟩
theorem r_12_bridge_149 : RA M_X12_bridge 149 0 150 := Or.inl ⟨0, by decide +kernel, rfl, rfl⟩
theorem r_12_bridge_150 : RL M_X12_bridge 150 3 151 := Or.inl ⟨3, by decide +kernel, rfl, rfl⟩
theorem r_12_bridge_151 : RL M_X12_bridge 151 5 153 := Or.inr ⟨by decide +kernel, rfl⟩
theorem r_12_bridge_153 : RKs M_X12_bridge M_X12_choiceOf 153 1 156 := ⟨486, by decide +kernel, Or.inl wd_m12_486, ok_M_X12_choiceOf, rfl⟩
theorem r_12_bridge_156 : RKv M_X12_bridge M_X12_behind 156 2 12 159 := ⟨477, by decide +kernel, wd_m12_477, ok_M_X12_behind, wd_s12_behind, rfl⟩
theorem r_12_bridge_159 : RS M_X12_bridge 159 3 160 := ⟨by decide, Or.inl ⟨3, by decide +kernel, rfl, rfl⟩⟩
theorem r_12_bridge_160 : RI M_X12_bridge 160 4 1 163 := ⟨by decide, by decide +kernel, rfl⟩
theorem r_12_bridge_163 : RB M_X12_bridge 163 .goto 85 166 := ⟨(-78), by decide +kernel, rfl, rfl⟩
theorem r_12_bridge_72 : RC M_X12_bridge 72 (-4) 74 := ⟨⟨by decide, by decide⟩, Or.inr (Or.inl ⟨by decide +kernel, by decide, rfl⟩)⟩
theorem r_12_bridge_74 : RW M_X12_bridge 74 .ireturn 75 1 := ⟨by decide +kernel, rfl⟩
theorem r_12_bridge_46 : RA M_X12_bridge 46 0 47 := Or.inl ⟨0, by decide +kernel, rfl, rfl⟩
theorem r_12_bridge_47 : RG M_X12_bridge 47 12 84 50 := ⟨195, _, by decide +kernel, rfl, by decide, wd_f12_195, rfl, rfl⟩
theorem r_12_bridge_50 : RL M_X12_bridge 50 2 51 := Or.inl ⟨2, by decide +kernel, rfl, rfl⟩
theorem r_12_bridge_51 : RC M_X12_bridge 51 (-1) 52 := ⟨⟨by decide, by decide⟩, Or.inl ⟨by decide +kernel, rfl⟩⟩
theorem r_12_bridge_52 : RW M_X12_bridge 52 .iastore 53 1 := ⟨by decide +kernel, rfl⟩
theorem r_12_bridge_53 : RI M_X12_bridge 53 2 1 56 := ⟨by decide, by decide +kernel, rfl⟩
theorem r_12_bridge_56 : RB M_X12_bridge 56 .goto 39 59 := ⟨(-17), by decide +kernel, rfl, rfl⟩
theorem r_12_bridge_9 : RC M_X12_bridge 9 (-1) 10 := ⟨⟨by decide, by decide⟩, Or.inl ⟨by decide +kernel, rfl⟩⟩
theorem r_12_bridge_10 : RW M_X12_bridge 10 .ireturn 11 1 := ⟨by decide +kernel, rfl⟩
set_option maxRecDepth 10000 in
set_option maxHeartbeats 600000 in
theorem sp_X12_bridge {l : Launch} {w : Wo} {d : Nat} {G : PH} {P : Option PV → PH → Prop} {u : Int} {TA TB : Int} {wa wb : Int → Int} {V : Int → Int → Int} (hwk : (0 ≤ (gA G 257 0 (0)) ∧ (gA G 257 0 (0)) ≤ 10) ∧ 0 ≤ (gA G 257 0 (1)) ∧ (gA G 257 0 (1)) ≤ 10) (hw0 : ∀ i, 0 ≤ i → i < (gA G 257 0 (0)) → 1 ≤ (gA G 256 0 (i)) ∧ (gA G 256 0 (i)) ≤ 9) (hw1 : ∀ i, 0 ≤ i → i < (gA G 257 0 (1)) → 1 ≤ (gA G 256 0 (10 + i)) ∧ (gA G 256 0 (10 + i)) ≤ 9) (hwa : ∀ i, 0 ≤ i → i < (gA G 257 0 (0)) → (gA G 256 0 (i)) = wa i) (hwb : ∀ i, 0 ≤ i → i < (gA G 257 0 (1)) → (gA G 256 0 (10 + i)) = wb i) (hB : (1 ≤ u ∧ u ≤ 3) → ((gA G 257 0 (0)) ≠ 0 ∧ (gA G 257 0 (1)) ≠ 0) → RWy (gA G 257 0 (0)) wa TA ∧ RWy (gA G 257 0 (1)) wb TB ∧ BEL wa wb TA TB u V) (h1 : ¬ (1 ≤ u ∧ u ≤ 3) → P (some (vI (-1))) G) (h2 : (1 ≤ u ∧ u ≤ 3) → ((gA G 257 0 (0)) = 0 ∨ (gA G 257 0 (1)) = 0) → P (some (vI (-3))) G) (h3 : (1 ≤ u ∧ u ≤ 3) → ((gA G 257 0 (0)) ≠ 0 ∧ (gA G 257 0 (1)) ≠ 0) → V 0 0 = 1000000000 → ∀ f : Int → Int, P (some (vI (-4))) (uA (sF G 12 0 85 u) 258 0 f)) (h4 : (1 ≤ u ∧ u ≤ 3) → ((gA G 257 0 (0)) ≠ 0 ∧ (gA G 257 0 (1)) ≠ 0) → V 0 0 ≠ 1000000000 → ∀ (L : Int) (f g : Int → Int), L = V 0 0 → (∀ m, 0 ≤ m → m < L → g m = bgF wa wb TA TB u V (ptI wa wb TA TB u V m).1 (ptI wa wb TA TB u V m).2) → P (some (vI L)) (sA (sA (uA (uA (sF (sF G 12 0 85 u) 12 0 87 L) 258 0 f) 259 0 g) 257 0 0 0) 257 0 1 0)) : PW l w M_X12_bridge (d + 186) 0 [some (vR 12 (0)), some (vI (u)), none, none, none, none] [] G P := by
  refine pw_iload r_12_bridge_0 rfl ?_
  refine pw_const r_12_bridge_1 ?_
  refine pw_const r_12_bridge_2 ?_
  refine pw_callS (av := [vI (u), vI (1), vI (3)]) (st := []) (ls0 := [some (vI (u)), some (vI (1)), some (vI (3))]) r_12_bridge_3 rfl rfl rfl (Nat.le_refl _) ?_
  refine sp_X12_within  ?_
  refine pw_if_neB r_12_bridge_6 (fun h06 => ?_) (fun h06 => ?_)
  · skip
    have c1 : 1 ≤ u ∧ u ≤ 3 := by omega
    refine pw_aload r_12_bridge_11 rfl ?_
    refine pw_getR r_12_bridge_12 fs_12_83 (by decide) ?_
    refine pw_const r_12_bridge_15 ?_
    refine pw_iald r_12_bridge_16 sh257 (by omega) (by omega) ?_
    refine pw_if_eq r_12_bridge_17 (fun h17 => ?_) (fun h17 => ?_)
    · skip
      refine pw_const r_12_bridge_29 ?_
      refine pw_iret r_12_bridge_31 rfl (Nat.le_refl _) ⟨rfl, ?_⟩
      exact h2 (by omega) (by omega)
    · skip
      refine pw_aload r_12_bridge_20 rfl ?_
      refine pw_getR r_12_bridge_21 fs_12_83 (by decide) ?_
      refine pw_const r_12_bridge_24 ?_
      refine pw_iald r_12_bridge_25 sh257 (by omega) (by omega) ?_
      refine pw_if_ne r_12_bridge_26 (fun h26 => ?_) (fun h26 => ?_)
      · skip
        have c2 : (gA G 257 0 (0)) ≠ 0 ∧ (gA G 257 0 (1)) ≠ 0 := ⟨by omega, by omega⟩
        obtain ⟨hRA, hRB, hBE⟩ := hB c1 c2
        have hnn : (gA G 257 0 (0)) ≤ 10 ∧ (gA G 257 0 (1)) ≤ 10 := ⟨hwk.1.2, hwk.2.2⟩
        have hTT : TA ≤ 90 ∧ TB ≤ 90 := ⟨hRA.1.2, hRB.1.2⟩
        have hTZ : (0 ≤ TA ∧ TA ≤ 90) ∧ 0 ≤ TB ∧ TB ≤ 90 := ⟨hRA.1, hRB.1⟩
        have hd0 := dn_in (a := 0) (b := 0) hBE ⟨Int.le_refl 0, hTZ.1.1⟩ ⟨Int.le_refl 0, hTZ.2.1⟩ hTT
        refine pw_aload r_12_bridge_32 rfl ?_
        refine pw_iload r_12_bridge_33 rfl ?_
        refine pw_putI r_12_bridge_34 (by decide +kernel) fs_12_85 (by decide) ?_
        refine pw_const r_12_bridge_37 ?_
        refine pw_istore (ls' := [some (vR 12 (0)), some (vI (u)), some (vI (0)), none, none, none]) r_12_bridge_38 rfl rfl ?_
        have L39 : ∀ (nF : Nat) (k : Int) (f : Int → Int), (hk : 0 ≤ k ∧ k ≤ 12100) → (hfm : ∀ j, 0 ≤ j → j < k → f j = -1) → (12100 - k).toNat < nF → PW l w M_X12_bridge (d + 186) 39 [some (vR 12 (0)), some (vI (u)), some (vI (k)), none, none, none] [] (uA (sF G 12 (0) 85 (u)) 258 (0) (f)) P := by
          intro nF
          induction nF with
          | zero => intro _ _ _ _ hM; exact absurd hM (Nat.not_lt_zero _)
          | succ nF ih39 =>
            intro k f hk hfm hM39
            refine pw_iload r_12_bridge_39 rfl ?_
            refine pw_const r_12_bridge_40 ?_
            refine pw_icmp_ge r_12_bridge_43 (fun h43 => ?_) (fun h43 => ?_)
            · skip
              have hmi := mi_neg (V := V) hRA hRB hnn (f := f) (fun j a b => hfm j a (by omega))
              refine pw_aload r_12_bridge_59 rfl ?_
              refine pw_const r_12_bridge_60 ?_
              refine pw_callV (av := [vI (0)]) (st := []) (ls0 := [some (vR 12 (0)), some (vI (0)), none, none, none, none]) r_12_bridge_61 rfl rfl rfl (Nat.le_refl _) ?_
              refine sp_X12_minutesFrom (182) (d := d) (a := (0 : Int)) (b := (0 : Int)) (TA := TA) (TB := TB) (wa := wa) (wb := wb) (V := V) (by omega) (by exact hwk) (by exact hw0) (by exact hw1) (by exact c1) (by exact st_0.symm) (by exact ⟨⟨Int.le_refl 0, hTZ.1.1⟩, Int.le_refl 0, hTZ.2.1⟩) (by exact hRA) (by exact hRB) (by exact hwa) (by exact hwb) (by exact hBE) (by exact hmi) ?_
              intro f1 hf1
              refine pw_istore (ls' := [some (vR 12 (0)), some (vI (u)), some (vI (dn (V (0 : Int) (0 : Int)))), none, none, none]) r_12_bridge_64 rfl rfl ?_
              refine pw_iload r_12_bridge_65 rfl ?_
              refine pw_const r_12_bridge_66 ?_
              refine pw_icmp_lt r_12_bridge_69 (fun h69 => ?_) (fun h69 => ?_)
              · skip
                have hfin : V 0 0 ≠ 1000000000 := by omega
                have hd1 := hd0.2.resolve_left (fun z => hfin z.1)
                clear hd0
                refine pw_const r_12_bridge_75 ?_
                refine pw_istore (ls' := [some (vR 12 (0)), some (vI (u)), some (vI (dn (V (0 : Int) (0 : Int)))), some (vI (0)), none, none]) r_12_bridge_76 rfl rfl ?_
                refine pw_aload r_12_bridge_77 rfl ?_
                refine pw_iload r_12_bridge_78 rfl ?_
                refine pw_putI r_12_bridge_79 (by decide +kernel) fs_12_87 (by decide) ?_
                refine pw_const r_12_bridge_82 ?_
                refine pw_istore (ls' := [some (vR 12 (0)), some (vI (u)), some (vI (dn (V (0 : Int) (0 : Int)))), some (vI (0)), some (vI (0)), none]) r_12_bridge_83 rfl rfl ?_
                have L85 : ∀ (nF : Nat) (m s a b : Int) (f g : Int → Int), (hm : 0 ≤ m ∧ m ≤ V 0 0) → (hs : s = stW wa wb a b) → (hpa : a = (ptI wa wb TA TB u V m).1) → (hpb : b = (ptI wa wb TA TB u V m).2) → (hf : MIF wa wb TA TB V f) → (hg : ∀ j, 0 ≤ j → j < m → g j = bgF wa wb TA TB u V (ptI wa wb TA TB u V j).1 (ptI wa wb TA TB u V j).2) → (V 0 0 - m).toNat < nF → PW l w M_X12_bridge (d + 186) 85 [some (vR 12 (0)), some (vI (u)), some (vI (dn (V (0 : Int) (0 : Int)))), some (vI (s)), some (vI (m)), none] [] (uA (uA (sF (sF G 12 (0) 85 (u)) 12 (0) 87 ((dn (V 0 0)))) 258 (0) (f)) 259 (0) (g)) P := by
                  intro nF
                  induction nF with
                  | zero => intro _ _ _ _ _ _ _ _ _ _ _ _ hM; exact absurd hM (Nat.not_lt_zero _)
                  | succ nF ih85 =>
                    intro m s a b f g hm hs hpa hpb hf hg hM85
                    have hpt := pt_at hBE hTZ hfin ⟨hm.1, hm.2⟩ hpa hpb
                    refine pw_iload r_12_bridge_85 rfl ?_
                    refine pw_iload r_12_bridge_87 rfl ?_
                    refine pw_icmp_ge r_12_bridge_88 (fun h88 => ?_) (fun h88 => ?_)
                    · skip
                      refine pw_aload r_12_bridge_166 rfl ?_
                      refine pw_getR r_12_bridge_167 fs_12_83 (by decide) ?_
                      refine pw_const r_12_bridge_170 ?_
                      refine pw_const r_12_bridge_171 ?_
                      refine pw_iast r_12_bridge_172 sh257 (by omega) (by omega) ?_
                      refine pw_aload r_12_bridge_173 rfl ?_
                      refine pw_getR r_12_bridge_174 fs_12_83 (by decide) ?_
                      refine pw_const r_12_bridge_177 ?_
                      refine pw_const r_12_bridge_178 ?_
                      refine pw_iast r_12_bridge_179 sh257 (by omega) (by omega) ?_
                      refine pw_iload r_12_bridge_180 rfl ?_
                      refine pw_iret r_12_bridge_181 rfl (Nat.le_refl _) ⟨rfl, ?_⟩
                      have em : m = V 0 0 := by omega
                      exact h4 c1 c2 hfin _ f g (by omega) (fun j j0 j1 => hg j j0 (by omega))
                    · skip
                      have hne : neP a b TA TB := fun z => by have hz := hpt.2.2; rw [z.1, z.2, bel_e hBE ⟨hTZ.1.1, hTZ.2.1⟩] at hz; omega
                      have hdab2 := dn_in (a := a) (b := b) hBE hpt.1 hpt.2.1 hTT
                      have hdab := hdab2.1
                      replace hdab2 := hdab2.2.resolve_left (fun z => by omega)
                      have hkA := hRA.2.2.2 a hpt.1.1 hpt.1.2
                      have hkB := hRB.2.2.2 b hpt.2.1.1 hpt.2.1.2
                      have hab : (0 ≤ a ∧ a ≤ TA) ∧ 0 ≤ b ∧ b ≤ TB := ⟨hpt.1, hpt.2.1⟩
                      refine pw_const r_12_bridge_91 ?_
                      refine pw_istore (ls' := [some (vR 12 (0)), some (vI (u)), some (vI (dn (V (0 : Int) (0 : Int)))), some (vI (s)), some (vI (m)), some (vI (0))]) r_12_bridge_92 rfl rfl ?_
                      have L94 : ∀ (nF : Nat) (i : Int) (f2 : Int → Int), (hi : 0 ≤ i ∧ i ≤ 3) → (hn : ∀ j, 0 ≤ j → j < i → ¬ gdC wa wb TA TB u V a b (chF j)) → (hf2 : MIF wa wb TA TB V f2) → (4 - i).toNat < nF → PW l w M_X12_bridge (d + 186) 94 [some (vR 12 (0)), some (vI (u)), some (vI (dn (V (0 : Int) (0 : Int)))), some (vI (s)), some (vI (m)), some (vI (i))] [] (uA (uA (sF (sF G 12 (0) 85 (u)) 12 (0) 87 ((dn (V 0 0)))) 258 (0) (f2)) 259 (0) (g)) P := by
                        intro nF
                        induction nF with
                        | zero => intro _ _ _ _ _ hM; exact absurd hM (Nat.not_lt_zero _)
                        | succ nF ih94 =>
                          intro i f2 hi hn hf2 hM94
                          have hch := ch_in hi
                          obtain ⟨x1, a1, hx1⟩ := ex_x1 (c := (chF i)) (k := plK wa a) (v := (gA G 256 0 (plK wa a))) (x := plX wa a) (by omega)
                          obtain ⟨y1, b1, hy1⟩ := ex_y1 (c := (chF i)) (k := plK wb b) (v := (gA G 256 0 (10 + plK wb b))) (x := plX wb b)
                          have hbk := bok_2 (va := gA G 256 0) (vb := fun i => gA G 256 0 (10 + i)) (h := u) hRA hRB hab.1 hab.2 hwa hwb hx1 hy1
                          refine pw_aload r_12_bridge_94 rfl ?_
                          refine pw_iload r_12_bridge_95 rfl ?_
                          refine pw_iload r_12_bridge_96 rfl ?_
                          refine pw_callS (av := [vI (i)]) (st := [vI (s), vR 12 (0)]) (ls0 := [some (vI (i))]) r_12_bridge_98 rfl rfl rfl (Nat.le_refl _) ?_
                          refine sp_X12_choiceOf  ?_
                          intro c0 hc0
                          replace hc0 := ch_eq hc0
                          refine pw_top (b := (chF i)) (hc0) ?_
                          refine pw_callV (av := [vI (s), vI ((chF i))]) (st := []) (ls0 := [some (vR 12 (0)), some (vI (s)), some (vI ((chF i))), none, none, none, none, none]) r_12_bridge_101 rfl rfl rfl (Nat.le_refl _) ?_
                          refine sp_X12_behind (a := (plK wa a)) (x := (plX wa a)) (b := (plK wb b)) (y := (plX wb b)) (x1 := x1) (a1 := a1) (y1 := y1) (b1 := b1) (by exact hwk) (by exact hw0) (by exact hw1) (by exact c1) (by exact hs) (by exact ⟨hkA.1, hkB.1, ⟨hkA.2.1, by omega⟩, hkB.2.1, by omega⟩) (by exact hch) (by exact hx1) (by exact hy1) ?_ ?_
                          · skip
                            intro qb
                            have hngd : ¬ gdC wa wb TA TB u V a b (chF i) := fun y => qb (hbk.1.mpr y.1)
                            clear qb
                            refine pw_if_lt r_12_bridge_104 (fun h104 => ?_) (fun h104 => absurd h104 (by omega))
                            have hi3 : i ≠ 3 := fun e => pk_some hBE hpt.1 hpt.2.1 hTT hne (by omega) (fun j j0 j1 => by by_cases e2 : j = i; (rw [e2]; exact hngd); (exact hn j j0 (by omega)))
                            refine pw_iinc (b := 0) (ls' := [some (vR 12 (0)), some (vI (u)), some (vI (dn (V (0 : Int) (0 : Int)))), some (vI (s)), some (vI (m)), some (vI ((i + 1)))]) r_12_bridge_131 rfl rfl (by omega) rfl ?_
                            refine pw_goto r_12_bridge_134 ?_
                            exact ih94 ((i + 1)) (f2) (by omega) (fun j j0 j1 => by by_cases e : j = i; (rw [e]; exact hngd); (exact hn j j0 (by omega))) (hf2) (by omega)
                          · skip
                            intro qb
                            have ho : okH wa wb TA TB u a b (chF i) := hbk.1.mp qb
                            have hnx := hbk.2 ho
                            clear qb
                            have hsg := sg_of ho
                            have ho1 := hsg.2.2.2.1
                            have ho2 := hsg.2.2.2.2
                            have hst := st_in hRA hRB hnn (a := a + sgA (chF i) (plX wa a)) (b := b + sgB (chF i) (plX wb b)) ⟨by omega, ho1⟩ ⟨by omega, ho2⟩
                            have hdn2 := dn_in (a := a + sgA (chF i) (plX wa a)) (b := b + sgB (chF i) (plX wb b)) hBE ⟨by omega, ho1⟩ ⟨by omega, ho2⟩ hTT
                            have hdn := hdn2.1
                            replace hdn2 := dn_step hdab2 hdn2.2 hpt.2.2 trivial
                            have hdq : dnQ (1 + dn (V (a + sgA (chF i) (plX wa a)) (b + sgB (chF i) (plX wb b))) = dn (V a b)) (V (a + sgA (chF i) (plX wa a)) (b + sgB (chF i) (plX wb b)) = V a b - 1) := hdn2
                            clear hdn2
                            refine pw_if_lt r_12_bridge_104 (fun h104 => absurd h104 (by omega)) (fun h104 => ?_)
                            refine pw_const r_12_bridge_107 ?_
                            refine pw_aload r_12_bridge_108 rfl ?_
                            refine pw_aload r_12_bridge_109 rfl ?_
                            refine pw_iload r_12_bridge_110 rfl ?_
                            refine pw_iload r_12_bridge_111 rfl ?_
                            refine pw_callS (av := [vI (i)]) (st := [vI (s), vR 12 (0), vR 12 (0), vI (1)]) (ls0 := [some (vI (i))]) r_12_bridge_113 rfl rfl rfl (Nat.le_refl _) ?_
                            refine sp_X12_choiceOf  ?_
                            intro c0 hc0
                            replace hc0 := ch_eq hc0
                            refine pw_top (b := (chF i)) (hc0) ?_
                            refine pw_callV (av := [vI (s), vI ((chF i))]) (st := [vR 12 (0), vI (1)]) (ls0 := [some (vR 12 (0)), some (vI (s)), some (vI ((chF i))), none, none, none, none, none]) r_12_bridge_116 rfl rfl rfl (Nat.le_refl _) ?_
                            refine sp_X12_behind (a := (plK wa a)) (x := (plX wa a)) (b := (plK wb b)) (y := (plX wb b)) (x1 := x1) (a1 := a1) (y1 := y1) (b1 := b1) (by exact hwk) (by exact hw0) (by exact hw1) (by exact c1) (by exact hs) (by exact ⟨hkA.1, hkB.1, ⟨hkA.2.1, by omega⟩, hkB.2.1, by omega⟩) (by exact hch) (by exact hx1) (by exact hy1) ?_ ?_
                            · skip
                              exact fun qb => absurd (hbk.1.mpr ho) qb
                            · skip
                              intro qb
                              clear qb
                              refine pw_callV (av := [vI (1100 * a1 + 110 * tk x1 + 10 * b1 + tk y1)]) (st := [vI (1)]) (ls0 := [some (vR 12 (0)), some (vI (1100 * a1 + 110 * tk x1 + 10 * b1 + tk y1)), none, none, none, none]) r_12_bridge_119 rfl rfl rfl (Nat.le_refl _) ?_
                              refine sp_X12_minutesFrom (182) (d := d) (a := (a + sgA (chF i) (plX wa a))) (b := (b + sgB (chF i) (plX wb b))) (TA := TA) (TB := TB) (wa := wa) (wb := wb) (V := V) (by omega) (by exact hwk) (by exact hw0) (by exact hw1) (by exact c1) (by exact hnx) (by exact ⟨⟨by omega, ho1⟩, by omega, ho2⟩) (by exact hRA) (by exact hRB) (by exact hwa) (by exact hwb) (by exact hBE) (by exact hf2) ?_
                              intro f3 hf3
                              refine pw_iadd r_12_bridge_122 (by omega) ?_
                              refine pw_aload r_12_bridge_123 rfl ?_
                              refine pw_iload r_12_bridge_124 rfl ?_
                              refine pw_callV (av := [vI (s)]) (st := [vI ((1 + (dn (V (a + sgA (chF i) (plX wa a)) (b + sgB (chF i) (plX wb b))))))]) (ls0 := [some (vR 12 (0)), some (vI (s)), none, none, none, none]) r_12_bridge_125 rfl rfl rfl (Nat.le_refl _) ?_
                              refine sp_X12_minutesFrom (182) (d := d) (a := a) (b := b) (TA := TA) (TB := TB) (wa := wa) (wb := wb) (V := V) (by omega) (by exact hwk) (by exact hw0) (by exact hw1) (by exact c1) (by exact hs) (by exact hab) (by exact hRA) (by exact hRB) (by exact hwa) (by exact hwb) (by exact hBE) (by exact hf3) ?_
                              intro f4 hf4
                              refine pw_icmp_eq r_12_bridge_128 (fun h128 => ?_) (fun h128 => ?_)
                              · skip
                                have hgd : gdC wa wb TA TB u V a b (chF i) := ⟨ho, hdq.mp h128⟩
                                have hrf := pk_ref hBE hpt.1 hpt.2.1 hTT hne (by omega) hi hgd hn
                                have hpn := pt_n hm.1 hpa hpb
                                refine pw_aload r_12_bridge_137 rfl ?_
                                refine pw_getR r_12_bridge_138 fs_12_86 (by decide) ?_
                                refine pw_iload r_12_bridge_141 rfl ?_
                                refine pw_iload r_12_bridge_143 rfl ?_
                                refine pw_callS (av := [vI (i)]) (st := [vI (m), vR 259 (0)]) (ls0 := [some (vI (i))]) r_12_bridge_145 rfl rfl rfl (Nat.le_refl _) ?_
                                refine sp_X12_choiceOf  ?_
                                intro c0 hc0
                                replace hc0 := ch_eq hc0
                                refine pw_top (b := (chF i)) (hc0) ?_
                                refine pw_iast r_12_bridge_148 sh259 (by omega) (by omega) ?_
                                refine pw_aload r_12_bridge_149 rfl ?_
                                refine pw_iload r_12_bridge_150 rfl ?_
                                refine pw_iload r_12_bridge_151 rfl ?_
                                refine pw_callS (av := [vI (i)]) (st := [vI (s), vR 12 (0)]) (ls0 := [some (vI (i))]) r_12_bridge_153 rfl rfl rfl (Nat.le_refl _) ?_
                                refine sp_X12_choiceOf  ?_
                                intro c0 hc0
                                replace hc0 := ch_eq hc0
                                refine pw_top (b := (chF i)) (hc0) ?_
                                refine pw_callV (av := [vI (s), vI ((chF i))]) (st := []) (ls0 := [some (vR 12 (0)), some (vI (s)), some (vI ((chF i))), none, none, none, none, none]) r_12_bridge_156 rfl rfl rfl (Nat.le_refl _) ?_
                                refine sp_X12_behind (a := (plK wa a)) (x := (plX wa a)) (b := (plK wb b)) (y := (plX wb b)) (x1 := x1) (a1 := a1) (y1 := y1) (b1 := b1) (by exact hwk) (by exact hw0) (by exact hw1) (by exact c1) (by exact hs) (by exact ⟨hkA.1, hkB.1, ⟨hkA.2.1, by omega⟩, hkB.2.1, by omega⟩) (by exact hch) (by exact hx1) (by exact hy1) ?_ ?_
                                · skip
                                  exact fun qb => absurd (hbk.1.mpr ho) qb
                                · skip
                                  intro qb
                                  clear qb
                                  refine pw_istore (ls' := [some (vR 12 (0)), some (vI (u)), some (vI (dn (V (0 : Int) (0 : Int)))), some (vI (1100 * a1 + 110 * tk x1 + 10 * b1 + tk y1)), some (vI (m)), some (vI (i))]) r_12_bridge_159 rfl rfl ?_
                                  refine pw_iinc (b := 0) (ls' := [some (vR 12 (0)), some (vI (u)), some (vI (dn (V (0 : Int) (0 : Int)))), some (vI (1100 * a1 + 110 * tk x1 + 10 * b1 + tk y1)), some (vI ((m + 1))), some (vI (i))]) r_12_bridge_160 rfl rfl (by omega) rfl ?_
                                  refine pw_goto r_12_bridge_163 ?_
                                  refine pw_weakL (ls' := [some (vR 12 (0)), some (vI (u)), some (vI (dn (V (0 : Int) (0 : Int)))), some (vI (1100 * a1 + 110 * tk x1 + 10 * b1 + tk y1)), some (vI ((m + 1))), none]) (⟨rfl, ⟨rfl, ⟨rfl, ⟨rfl, ⟨rfl, trivial⟩⟩⟩⟩⟩) ?_
                                  refine pw_eqG (G' := uA (uA (sF (sF G 12 (0) 85 (u)) 12 (0) 87 ((dn (V 0 0)))) 258 (0) (f4)) 259 (0) ((upA g m (chF i)))) (by rw [uA_uA, uA_abs _ _ _ _ _ _ _ _ (by decide), sA_uA]) ?_
                                  exact ih85 ((m + 1)) (1100 * a1 + 110 * tk x1 + 10 * b1 + tk y1) ((a + sgA (chF i) (plX wa a))) ((b + sgB (chF i) (plX wb b))) (f4) ((upA g m (chF i))) (by omega) (hnx) (by rw [hpn.1, ← hrf.2.1]) (by rw [hpn.2, ← hrf.2.2]) (hf4) (fun j j0 j1 => by by_cases e : j = m; (rw [e, upA_same, hrf.1, hpa, hpb]); (rw [upA_ne e]; exact hg j j0 (by omega))) (by omega)
                              · skip
                                have hngd : ¬ gdC wa wb TA TB u V a b (chF i) := fun y => h128 (hdq.mpr y.2)
                                have hi3 : i ≠ 3 := fun e => pk_some hBE hpt.1 hpt.2.1 hTT hne (by omega) (fun j j0 j1 => by by_cases e2 : j = i; (rw [e2]; exact hngd); (exact hn j j0 (by omega)))
                                refine pw_iinc (b := 0) (ls' := [some (vR 12 (0)), some (vI (u)), some (vI (dn (V (0 : Int) (0 : Int)))), some (vI (s)), some (vI (m)), some (vI ((i + 1)))]) r_12_bridge_131 rfl rfl (by omega) rfl ?_
                                refine pw_goto r_12_bridge_134 ?_
                                refine pw_eqG (G' := uA (uA (sF (sF G 12 (0) 85 (u)) 12 (0) 87 ((dn (V 0 0)))) 258 (0) (f4)) 259 (0) (g)) (by rw [uA_uA, uA_abs _ _ _ _ _ _ _ _ (by decide)]) ?_
                                exact ih94 ((i + 1)) (f4) (by omega) (fun j j0 j1 => by by_cases e : j = i; (rw [e]; exact hngd); (exact hn j j0 (by omega))) (hf4) (by omega)
                      exact L94 _ (0) (f) (by omega) (fun j a b => by omega) (hf) (Nat.lt_succ_self _)
                refine pw_eqG (G' := uA (uA (sF (sF G 12 (0) 85 (u)) 12 (0) 87 ((dn (V 0 0)))) 258 (0) (f1)) 259 (0) ((gA G 259 0))) (by rw [uA_uA]; exact (uA_own (uA (sF (sF G 12 0 85 u) 12 0 87 (dn (V 0 0))) 258 0 f1) 259 0).symm) ?_
                exact L85 _ (0) (0) ((0 : Int)) ((0 : Int)) (f1) ((gA G 259 0)) (by omega) (st_0.symm) (rfl) (rfl) (hf1) (fun j a b => by omega) (Nat.lt_succ_self _)
              · skip
                refine pw_const r_12_bridge_72 ?_
                refine pw_iret r_12_bridge_74 rfl (Nat.le_refl _) ⟨rfl, ?_⟩
                rw [uA_uA]
                exact h3 c1 c2 (by omega) _
            · skip
              refine pw_aload r_12_bridge_46 rfl ?_
              refine pw_getR r_12_bridge_47 fs_12_84 (by decide) ?_
              refine pw_iload r_12_bridge_50 rfl ?_
              refine pw_const r_12_bridge_51 ?_
              refine pw_iast r_12_bridge_52 sh258 (by omega) (by omega) ?_
              refine pw_iinc (b := 0) (ls' := [some (vR 12 (0)), some (vI (u)), some (vI ((k + 1))), none, none, none]) r_12_bridge_53 rfl rfl (by omega) rfl ?_
              refine pw_goto r_12_bridge_56 ?_
              refine pw_eqG (G' := uA (sF G 12 (0) 85 (u)) 258 (0) ((upA f k (-1)))) (by rw [sA_uA]) ?_
              exact ih39 ((k + 1)) ((upA f k (-1))) (by first | assumption | omega) (fun j a b => by by_cases e : j = k; (rw [e, upA_same]); (rw [upA_ne e]; exact hfm j a (by omega))) (by omega)
        refine pw_eqG (G' := uA (sF G 12 (0) 85 (u)) 258 (0) ((gA G 258 0))) ((uA_own (sF G 12 0 85 u) 258 0).symm) ?_
        exact L39 _ (0) ((gA G 258 0)) (by first | assumption | omega) (fun j a b => by omega) (Nat.lt_succ_self _)
      · skip
        refine pw_const r_12_bridge_29 ?_
        refine pw_iret r_12_bridge_31 rfl (Nat.le_refl _) ⟨rfl, ?_⟩
        exact h2 (by omega) (by omega)
  · skip
    refine pw_const r_12_bridge_9 ?_
    refine pw_iret r_12_bridge_10 rfl (Nat.le_refl _) ⟨rfl, ?_⟩
    exact h1 (by omega)
