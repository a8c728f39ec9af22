theorem vdM_x {G : PH} {ST : Int → Int → Int → Prop} {WT : Int → Int → Int → Int → Int} {g : FQ} {bs gg : Int → Int} {v a b : Int} : vdM (sF (uA (uA (fndM G g) 244 0 bs) 247 0 gg) 12 0 63 v) ST WT a b = vdM G ST WT a b := rfl

theorem wd_m12_449 : Cond.methodLink "NameRollsModel" 449 M_X12_countOf.1 ∈ UW := UW9_at 235 (by decide +kernel) rfl
theorem r_12_best_0 : RA M_X12_best 0 0 1 := Or.inl ⟨0, by decide +kernel, rfl, rfl⟩
theorem r_12_best_1 : RG M_X12_best 1 12 61 4 := ⟨144, _, by decide +kernel, rfl, by decide, wd_f12_144, rfl, rfl⟩
theorem r_12_best_4 : RC M_X12_best 4 0 5 := ⟨⟨by decide, by decide⟩, Or.inl ⟨by decide +kernel, rfl⟩⟩
theorem r_12_best_5 : RW M_X12_best 5 .iaload 6 1 := ⟨by decide +kernel, rfl⟩
theorem r_12_best_6 : RB M_X12_best 6 (.ifCond .eq) 18 9 := ⟨12, by decide +kernel, rfl, rfl⟩
theorem r_12_best_18 : RC M_X12_best 18 (-3) 20 := ⟨⟨by decide, by decide⟩, Or.inr (Or.inl ⟨by decide +kernel, by decide, rfl⟩)⟩
theorem r_12_best_20 : RW M_X12_best 20 .ireturn 21 1 := ⟨by decide +kernel, rfl⟩
theorem r_12_best_9 : RA M_X12_best 9 0 10 := Or.inl ⟨0, by decide +kernel, rfl, rfl⟩
theorem r_12_best_10 : RG M_X12_best 10 12 61 13 := ⟨144, _, by decide +kernel, rfl, by decide, wd_f12_144, rfl, rfl⟩
theorem r_12_best_13 : RC M_X12_best 13 1 14 := ⟨⟨by decide, by decide⟩, Or.inl ⟨by decide +kernel, rfl⟩⟩
theorem r_12_best_14 : RW M_X12_best 14 .iaload 15 1 := ⟨by decide +kernel, rfl⟩
theorem r_12_best_15 : RB M_X12_best 15 (.ifCond .ne) 21 18 := ⟨6, by decide +kernel, rfl, rfl⟩
theorem r_12_best_21 : RA M_X12_best 21 0 22 := Or.inl ⟨0, by decide +kernel, rfl, rfl⟩
theorem r_12_best_22 : RKv M_X12_best M_X12_findOffered 22 0 12 25 := ⟨443, by decide +kernel, wd_m12_443, ok_M_X12_findOffered, wd_s12_findOffered, rfl⟩
theorem r_12_best_25 : RA M_X12_best 25 0 26 := Or.inl ⟨0, by decide +kernel, rfl, rfl⟩
theorem r_12_best_26 : RC M_X12_best 26 (-1) 27 := ⟨⟨by decide, by decide⟩, Or.inl ⟨by decide +kernel, rfl⟩⟩
theorem r_12_best_27 : RP M_X12_best 27 12 63 30 := ⟨150, _, by decide +kernel, rfl, by decide, wd_f12_150, rfl, Or.inl rfl, rfl⟩
theorem r_12_best_30 : RC M_X12_best 30 0 31 := ⟨⟨by decide, by decide⟩, Or.inl ⟨by decide +kernel, rfl⟩⟩
theorem r_12_best_31 : RS M_X12_best 31 1 32 := ⟨by decide, Or.inl ⟨1, by decide +kernel, rfl, rfl⟩⟩
theorem r_12_best_32 : RC M_X12_best 32 0 33 := ⟨⟨by decide, by decide⟩, Or.inl ⟨by decide +kernel, rfl⟩⟩
theorem r_12_best_33 : RS M_X12_best 33 2 34 := ⟨by decide, Or.inl ⟨2, by decide +kernel, rfl, rfl⟩⟩
theorem r_12_best_34 : RL M_X12_best 34 2 35 := Or.inl ⟨2, by decide +kernel, rfl, rfl⟩
theorem r_12_best_35 : RC M_X12_best 35 1 36 := ⟨⟨by decide, by decide⟩, Or.inl ⟨by decide +kernel, rfl⟩⟩
theorem r_12_best_36 : RA M_X12_best 36 0 37 := Or.inl ⟨0, by decide +kernel, rfl, rfl⟩
theorem r_12_best_37 : RG M_X12_best 37 12 61 40 := ⟨144, _, by decide +kernel, rfl, by decide, wd_f12_144, rfl, rfl⟩
theorem r_12_best_40 : RC M_X12_best 40 0 41 := ⟨⟨by decide, by decide⟩, Or.inl ⟨by decide +kernel, rfl⟩⟩
theorem r_12_best_41 : RW M_X12_best 41 .iaload 42 1 := ⟨by decide +kernel, rfl⟩
theorem r_12_best_42 : RW M_X12_best 42 .ishl 43 1 := ⟨by decide +kernel, rfl⟩
theorem r_12_best_43 : RB M_X12_best 43 (.if_icmp .ge) 165 46 := ⟨122, by decide +kernel, rfl, rfl⟩
theorem r_12_best_165 : RA M_X12_best 165 0 166 := Or.inl ⟨0, by decide +kernel, rfl, rfl⟩
theorem r_12_best_166 : RG M_X12_best 166 12 61 169 := ⟨144, _, by decide +kernel, rfl, by decide, wd_f12_144, rfl, rfl⟩
theorem r_12_best_169 : RC M_X12_best 169 0 170 := ⟨⟨by decide, by decide⟩, Or.inl ⟨by decide +kernel, rfl⟩⟩
theorem r_12_best_170 : RC M_X12_best 170 0 171 := ⟨⟨by decide, by decide⟩, Or.inl ⟨by decide +kernel, rfl⟩⟩
theorem r_12_best_171 : RW M_X12_best 171 .iastore 172 1 := ⟨by decide +kernel, rfl⟩
theorem r_12_best_172 : RA M_X12_best 172 0 173 := Or.inl ⟨0, by decide +kernel, rfl, rfl⟩
theorem r_12_best_173 : RG M_X12_best 173 12 61 176 := ⟨144, _, by decide +kernel, rfl, by decide, wd_f12_144, rfl, rfl⟩
theorem r_12_best_176 : RC M_X12_best 176 1 177 := ⟨⟨by decide, by decide⟩, Or.inl ⟨by decide +kernel, rfl⟩⟩
theorem r_12_best_177 : RC M_X12_best 177 0 178 := ⟨⟨by decide, by decide⟩, Or.inl ⟨by decide +kernel, rfl⟩⟩
theorem r_12_best_178 : RW M_X12_best 178 .iastore 179 1 := ⟨by decide +kernel, rfl⟩
theorem r_12_best_179 : RA M_X12_best 179 0 180 := Or.inl ⟨0, by decide +kernel, rfl, rfl⟩
theorem r_12_best_180 : RG M_X12_best 180 12 63 183 := ⟨150, _, by decide +kernel, rfl, by decide, wd_f12_150, rfl, rfl⟩
theorem r_12_best_183 : RW M_X12_best 183 .ireturn 184 1 := ⟨by decide +kernel, rfl⟩
theorem r_12_best_46 : RC M_X12_best 46 0 47 := ⟨⟨by decide, by decide⟩, Or.inl ⟨by decide +kernel, rfl⟩⟩
theorem r_12_best_47 : RS M_X12_best 47 3 48 := ⟨by decide, Or.inl ⟨3, by decide +kernel, rfl, rfl⟩⟩
theorem r_12_best_48 : RL M_X12_best 48 3 49 := Or.inl ⟨3, by decide +kernel, rfl, rfl⟩
theorem r_12_best_49 : RC M_X12_best 49 1 50 := ⟨⟨by decide, by decide⟩, Or.inl ⟨by decide +kernel, rfl⟩⟩
theorem r_12_best_50 : RA M_X12_best 50 0 51 := Or.inl ⟨0, by decide +kernel, rfl, rfl⟩
theorem r_12_best_51 : RG M_X12_best 51 12 61 54 := ⟨144, _, by decide +kernel, rfl, by decide, wd_f12_144, rfl, rfl⟩
theorem r_12_best_54 : RC M_X12_best 54 1 55 := ⟨⟨by decide, by decide⟩, Or.inl ⟨by decide +kernel, rfl⟩⟩
theorem r_12_best_55 : RW M_X12_best 55 .iaload 56 1 := ⟨by decide +kernel, rfl⟩
theorem r_12_best_56 : RW M_X12_best 56 .ishl 57 1 := ⟨by decide +kernel, rfl⟩
theorem r_12_best_57 : RB M_X12_best 57 (.if_icmp .ge) 159 60 := ⟨102, by decide +kernel, rfl, rfl⟩
theorem r_12_best_159 : RI M_X12_best 159 2 1 162 := ⟨by decide, by decide +kernel, rfl⟩
theorem r_12_best_162 : RB M_X12_best 162 .goto 34 165 := ⟨(-128), by decide +kernel, rfl, rfl⟩
theorem r_12_best_60 : RL M_X12_best 60 2 61 := Or.inl ⟨2, by decide +kernel, rfl, rfl⟩
theorem r_12_best_61 : RKs M_X12_best M_X12_countOf 61 1 64 := ⟨449, by decide +kernel, Or.inl wd_m12_449, ok_M_X12_countOf, rfl⟩
theorem r_12_best_64 : RL M_X12_best 64 3 65 := Or.inl ⟨3, by decide +kernel, rfl, rfl⟩
theorem r_12_best_65 : RKs M_X12_best M_X12_countOf 65 1 68 := ⟨449, by decide +kernel, Or.inl wd_m12_449, ok_M_X12_countOf, rfl⟩
theorem r_12_best_68 : RW M_X12_best 68 .iadd 69 1 := ⟨by decide +kernel, rfl⟩
theorem r_12_best_69 : RS M_X12_best 69 4 71 := ⟨by decide, Or.inr ⟨by decide +kernel, rfl⟩⟩
theorem r_12_best_71 : RL M_X12_best 71 2 72 := Or.inl ⟨2, by decide +kernel, rfl, rfl⟩
theorem r_12_best_72 : RKs M_X12_best M_X12_countOf 72 1 75 := ⟨449, by decide +kernel, Or.inl wd_m12_449, ok_M_X12_countOf, rfl⟩
theorem r_12_best_75 : RL M_X12_best 75 3 76 := Or.inl ⟨3, by decide +kernel, rfl, rfl⟩
theorem r_12_best_76 : RKs M_X12_best M_X12_countOf 76 1 79 := ⟨449, by decide +kernel, Or.inl wd_m12_449, ok_M_X12_countOf, rfl⟩
theorem r_12_best_79 : RW M_X12_best 79 .isub 80 1 := ⟨by decide +kernel, rfl⟩
theorem r_12_best_80 : RS M_X12_best 80 5 82 := ⟨by decide, Or.inr ⟨by decide +kernel, rfl⟩⟩
theorem r_12_best_82 : RL M_X12_best 82 5 84 := Or.inr ⟨by decide +kernel, rfl⟩
theorem r_12_best_84 : RB M_X12_best 84 (.ifCond .ge) 93 87 := ⟨9, by decide +kernel, rfl, rfl⟩
theorem r_12_best_93 : RL M_X12_best 93 5 95 := Or.inr ⟨by decide +kernel, rfl⟩
theorem r_12_best_95 : RS M_X12_best 95 5 97 := ⟨by decide, Or.inr ⟨by decide +kernel, rfl⟩⟩
theorem r_12_best_97 : RL M_X12_best 97 4 99 := Or.inr ⟨by decide +kernel, rfl⟩
theorem r_12_best_99 : RA M_X12_best 99 0 100 := Or.inl ⟨0, by decide +kernel, rfl, rfl⟩
theorem r_12_best_100 : RG M_X12_best 100 12 63 103 := ⟨150, _, by decide +kernel, rfl, by decide, wd_f12_150, rfl, rfl⟩
theorem r_12_best_103 : RB M_X12_best 103 (.if_icmp .gt) 121 106 := ⟨18, by decide +kernel, rfl, rfl⟩
theorem r_12_best_121 : RA M_X12_best 121 0 122 := Or.inl ⟨0, by decide +kernel, rfl, rfl⟩
theorem r_12_best_122 : RL M_X12_best 122 2 123 := Or.inl ⟨2, by decide +kernel, rfl, rfl⟩
theorem r_12_best_123 : RL M_X12_best 123 3 124 := Or.inl ⟨3, by decide +kernel, rfl, rfl⟩
theorem r_12_best_124 : RKv M_X12_best M_X12_fails 124 2 12 127 := ⟨446, by decide +kernel, wd_m12_446, ok_M_X12_fails, wd_s12_fails, rfl⟩
theorem r_12_best_127 : RB M_X12_best 127 (.ifCond .ne) 153 130 := ⟨26, by decide +kernel, rfl, rfl⟩
theorem r_12_best_153 : RI M_X12_best 153 3 1 156 := ⟨by decide, by decide +kernel, rfl⟩
theorem r_12_best_156 : RB M_X12_best 156 .goto 48 159 := ⟨(-108), by decide +kernel, rfl, rfl⟩
theorem r_12_best_130 : RA M_X12_best 130 0 131 := Or.inl ⟨0, by decide +kernel, rfl, rfl⟩
theorem r_12_best_131 : RL M_X12_best 131 4 133 := Or.inr ⟨by decide +kernel, rfl⟩
theorem r_12_best_133 : RP M_X12_best 133 12 63 136 := ⟨150, _, by decide +kernel, rfl, by decide, wd_f12_150, rfl, Or.inl rfl, rfl⟩
theorem r_12_best_136 : RL M_X12_best 136 5 138 := Or.inr ⟨by decide +kernel, rfl⟩
theorem r_12_best_138 : RS M_X12_best 138 1 139 := ⟨by decide, Or.inl ⟨1, by decide +kernel, rfl, rfl⟩⟩
theorem r_12_best_139 : RA M_X12_best 139 0 140 := Or.inl ⟨0, by decide +kernel, rfl, rfl⟩
theorem r_12_best_140 : RG M_X12_best 140 12 64 143 := ⟨153, _, by decide +kernel, rfl, by decide, wd_f12_153, rfl, rfl⟩
theorem r_12_best_143 : RC M_X12_best 143 0 144 := ⟨⟨by decide, by decide⟩, Or.inl ⟨by decide +kernel, rfl⟩⟩
theorem r_12_best_144 : RL M_X12_best 144 2 145 := Or.inl ⟨2, by decide +kernel, rfl, rfl⟩
theorem r_12_best_145 : RW M_X12_best 145 .iastore 146 1 := ⟨by decide +kernel, rfl⟩
theorem r_12_best_146 : RA M_X12_best 146 0 147 := Or.inl ⟨0, by decide +kernel, rfl, rfl⟩
theorem r_12_best_147 : RG M_X12_best 147 12 64 150 := ⟨153, _, by decide +kernel, rfl, by decide, wd_f12_153, rfl, rfl⟩
theorem r_12_best_150 : RC M_X12_best 150 1 151 := ⟨⟨by decide, by decide⟩, Or.inl ⟨by decide +kernel, rfl⟩⟩
theorem r_12_best_151 : RL M_X12_best 151 3 152 := Or.inl ⟨3, by decide +kernel, rfl, rfl⟩
theorem r_12_best_152 : RW M_X12_best 152 .iastore 153 1 := ⟨by decide +kernel, rfl⟩
theorem r_12_best_106 : RL M_X12_best 106 4 108 := Or.inr ⟨by decide +kernel, rfl⟩
theorem r_12_best_108 : RA M_X12_best 108 0 109 := Or.inl ⟨0, by decide +kernel, rfl, rfl⟩
theorem r_12_best_109 : RG M_X12_best 109 12 63 112 := ⟨150, _, by decide +kernel, rfl, by decide, wd_f12_150, rfl, rfl⟩
theorem r_12_best_112 : RB M_X12_best 112 (.if_icmp .ne) 153 115 := ⟨41, by decide +kernel, rfl, rfl⟩
theorem r_12_best_115 : RL M_X12_best 115 5 117 := Or.inr ⟨by decide +kernel, rfl⟩
theorem r_12_best_117 : RL M_X12_best 117 1 118 := Or.inl ⟨1, by decide +kernel, rfl, rfl⟩
theorem r_12_best_118 : RB M_X12_best 118 (.if_icmp .ge) 153 121 := ⟨35, by decide +kernel, rfl, rfl⟩
theorem r_12_best_87 : RL M_X12_best 87 5 89 := Or.inr ⟨by decide +kernel, rfl⟩
theorem r_12_best_89 : RW M_X12_best 89 .ineg 90 1 := ⟨by decide +kernel, rfl⟩
theorem r_12_best_90 : RB M_X12_best 90 .goto 95 93 := ⟨5, by decide +kernel, rfl, rfl⟩
set_option maxRecDepth 10000 in
theorem sp_X12_best {l : Launch} {w : Wo} {d : Nat} {G : PH} {P : Option PV → PH → Prop} {ST : Int → Int → Int → Prop} {WT : Int → Int → Int → Int → Int} {SD : Int → Int → Int → Int → Int → Int × Int} {FC : Int → Int → Int → Int} {KC : Int → Int → Int → Int → Int} (hsz : 0 ≤ (gF G 12 0 17) ∧ (gF G 12 0 17) ≤ 150) (hf : 0 ≤ (gF G 12 0 27) ∧ (gF G 12 0 27) ≤ 300) (hlt : 0 ≤ (gF G 12 0 29) ∧ (gF G 12 0 29) ≤ 60) (hofs : ∀ i, 0 ≤ i → i < (gF G 12 0 27) → 0 ≤ (gA G 219 0 (i)) ∧ (gA G 219 0 (i)) < 150) (hsent : ∀ l, 0 ≤ l → l < (gF G 12 0 29) → 0 ≤ (gA G 223 0 (l)) ∧ (gA G 223 0 (l)) ≤ 600) (hpr : 0 ≤ (gF G 12 0 34) ∧ (gF G 12 0 34) ≤ 40) (htx : 0 ≤ (gF G 12 0 42) ∧ (gF G 12 0 42) ≤ 20) (hTX : txM G) (hSD : sdM G = SD) (hFC : fcM G = FC) (hKC : kM G = KC) (hcA : ∀ i, 0 ≤ i → i < (gF G 12 0 17) → 0 ≤ (gA G 212 0 (i)) ∧ (gA G 212 0 (i)) ≤ 600) (hsA : ∀ i, 0 ≤ i → i < (gF G 12 0 17) → 0 ≤ (gA G 205 0 (i)) ∧ (gA G 205 0 (i)) ≤ 1) (hlv : ∀ s i, 0 ≤ s → s < 2 → 0 ≤ i → i < (gA G 243 0 (s)) → 0 ≤ (gA G 242 0 (7 * s + i)) ∧ (gA G 242 0 (7 * s + i)) < (gF G 12 0 17)) (hof : ∀ s, 0 ≤ s → s < 2 → 0 ≤ (gA G 243 0 (s)) ∧ (gA G 243 0 (s)) ≤ 7) (hdd : 0 ≤ (gF G 12 0 0) ∧ (gF G 12 0 0) ≤ 600) (hwi : ∀ x, 0 ≤ x → x < (gF G 12 0 17) → (gA G 209 0 (x)) = -1 ∨ (0 ≤ (gA G 209 0 (x)) ∧ (gA G 209 0 (x)) < (gF G 12 0 17))) (hc : 0 ≤ (gF G 12 0 3) ∧ (gF G 12 0 3) ≤ 16) (hr : 1 ≤ (gF G 12 0 62) ∧ (gF G 12 0 62) ≤ 99) (hST : stM G = ST) (hWT : wtM G = WT) (h1 : ((gA G 243 0 (0)) = 0 ∨ (gA G 243 0 (1)) = 0) → P (some (vI (-3))) G) (h2 : ¬ ((gA G 243 0 (0)) = 0 ∨ (gA G 243 0 (1)) = 0) → ∀ (g : FQ) (gg bs : Int → Int) (t : BS), t = bstF (ltM G ST WT) (pShl 1 (gA G 243 0 (0))) (pShl 1 (gA G 243 0 (1))) (-1, 0, (gA G 244 0 (0)), (gA G 244 0 (1))) → bs 0 = t.2.2.1 → bs 1 = t.2.2.2 → P (some (vI (t.1))) (sA (sA (sF (uA (uA (fndM G g) 244 0 (bs)) 247 0 (gg)) 12 0 63 (t.1)) 243 0 0 (0)) 243 0 (1) (0))) : PW l w M_X12_best (d + 103) 0 [some (vR 12 (0)), none, none, none, none, none] [] G P := by
  have hsh0 := shl_in (hof 0 (by decide) (by decide))
  have hsh1 := shl_in (hof 1 (by decide) (by decide))
  refine pw_aload r_12_best_0 rfl ?_
  refine pw_getR r_12_best_1 fs_12_61 (by decide) ?_
  refine pw_const r_12_best_4 ?_
  refine pw_iald r_12_best_5 sh243 (by omega) (by omega) ?_
  refine pw_if_eq r_12_best_6 (fun h06 => ?_) (fun h06 => ?_)
  · skip
    refine pw_const r_12_best_18 ?_
    refine pw_iret r_12_best_20 rfl (Nat.le_refl _) ⟨rfl, ?_⟩
    exact h1 (by omega)
  · skip
    refine pw_aload r_12_best_9 rfl ?_
    refine pw_getR r_12_best_10 fs_12_61 (by decide) ?_
    refine pw_const r_12_best_13 ?_
    refine pw_iald r_12_best_14 sh243 (by omega) (by omega) ?_
    refine pw_if_ne r_12_best_15 (fun h15 => ?_) (fun h15 => ?_)
    · skip
      refine pw_aload r_12_best_21 rfl ?_
      refine pw_callV (av := []) (st := []) (ls0 := [some (vR 12 (0)), none, none, none, none]) r_12_best_22 rfl rfl rfl (Nat.le_refl _) ?_
      refine sp_X12_findOffered (SD := SD) (FC := FC) (KC := KC) (ST := ST) (WT := WT) (by exact hsz) (by exact hf) (by exact hlt) (by exact hofs) (by exact hsent) (by exact hpr) (by exact htx) (by exact hTX) (by exact hSD) (by exact hFC) (by exact hKC) (by exact hcA) (by exact hsA) (hlv) (hof) (hdd) (hST) (hWT) ?_
      intro g9 hg9
      refine pw_aload r_12_best_25 rfl ?_
      refine pw_const r_12_best_26 ?_
      refine pw_putI r_12_best_27 (by decide +kernel) fs_12_63 (by decide) ?_
      refine pw_const r_12_best_30 ?_
      refine pw_istore (ls' := [some (vR 12 (0)), some (vI (0)), none, none, none, none]) r_12_best_31 rfl rfl ?_
      refine pw_const r_12_best_32 ?_
      refine pw_istore (ls' := [some (vR 12 (0)), some (vI (0)), some (vI (0)), none, none, none]) r_12_best_33 rfl rfl ?_
      have L34 : ∀ (nF : Nat) (a0 mo le : Int) (bs gg : Int → Int), (ha0 : 0 ≤ a0 ∧ a0 ≤ (pShl 1 (gA G 243 0 (0)))) → (hs0 : (mo, le, bs 0, bs 1) = iterI (fun x => bstB (ltM G ST WT) (pShl 1 (gA G 243 0 (1))) x) (a0) (-1, 0, (gA G 244 0 (0)), (gA G 244 0 (1)))) → (129 - a0).toNat < nF → PW l w M_X12_best (d + 103) 34 [some (vR 12 (0)), some (vI (le)), some (vI (a0)), none, none, none] [] (sF (uA (uA (fndM G g9) 244 (0) (bs)) 247 (0) (gg)) 12 (0) 63 (mo)) P := by
        intro nF
        induction nF with
        | zero => intro _ _ _ _ _ _ _ hM; exact absurd hM (Nat.not_lt_zero _)
        | succ nF ih34 =>
          intro a0 mo le bs gg ha0 hs0 hM34
          refine pw_iload r_12_best_34 rfl ?_
          refine pw_const r_12_best_35 ?_
          refine pw_aload r_12_best_36 rfl ?_
          refine pw_getR r_12_best_37 fs_12_61 (by decide) ?_
          refine pw_const r_12_best_40 ?_
          refine pw_ialdv (v := gA G 243 (0) (0)) r_12_best_41 sh243 (by omega) (by omega) (by first | rfl | simp [gF_sF, gF_sA, gF_uA, gF_sD, gA_sF, gA_sA, gA_uA, gA_sD, gD_sF, gD_sA, gD_uA, gD_sD]) ?_
          refine pw_ishl r_12_best_42 ?_
          refine pw_icmp_ge r_12_best_43 (fun h43 => ?_) (fun h43 => ?_)
          · skip
            refine pw_aload r_12_best_165 rfl ?_
            refine pw_getR r_12_best_166 fs_12_61 (by decide) ?_
            refine pw_const r_12_best_169 ?_
            refine pw_const r_12_best_170 ?_
            refine pw_iast r_12_best_171 sh243 (by omega) (by omega) ?_
            refine pw_aload r_12_best_172 rfl ?_
            refine pw_getR r_12_best_173 fs_12_61 (by decide) ?_
            refine pw_const r_12_best_176 ?_
            refine pw_const r_12_best_177 ?_
            refine pw_iast r_12_best_178 sh243 (by omega) (by omega) ?_
            refine pw_aload r_12_best_179 rfl ?_
            refine pw_getIv (v := mo) r_12_best_180 fs_12_63 (by decide) (by first | rfl | simp [gF_sF, gF_sA, gF_uA, gF_sD, gA_sF, gA_sA, gA_uA, gA_sD, gD_sF, gD_sA, gD_uA, gD_sD]) ?_
            refine pw_iret r_12_best_183 rfl (Nat.le_refl _) ⟨rfl, ?_⟩
            have ea : a0 = (pShl 1 (gA G 243 0 (0))) := by omega
            rw [ea] at hs0
            exact h2 (by omega) g9 gg bs (mo, le, bs 0, bs 1) hs0 rfl rfl
          · skip
            refine pw_const r_12_best_46 ?_
            refine pw_istore (ls' := [some (vR 12 (0)), some (vI (le)), some (vI (a0)), some (vI (0)), none, none]) r_12_best_47 rfl rfl ?_
            have L48 : ∀ (nF : Nat) (b0 mo1 le1 : Int) (bs1 gg1 : Int → Int), (hb0 : 0 ≤ b0 ∧ b0 ≤ (pShl 1 (gA G 243 0 (1)))) → (hs1 : (mo1, le1, bs1 0, bs1 1) = iterI (fun y => bstS (ltM G ST WT) (a0) y) (b0) (iterI (fun x => bstB (ltM G ST WT) (pShl 1 (gA G 243 0 (1))) x) (a0) (-1, 0, (gA G 244 0 (0)), (gA G 244 0 (1))))) → (129 - b0).toNat < nF → PW l w M_X12_best (d + 103) 48 [some (vR 12 (0)), some (vI (le1)), some (vI (a0)), some (vI (b0)), none, none] [] (sF (uA (uA (fndM G g9) 244 (0) (bs1)) 247 (0) (gg1)) 12 (0) 63 (mo1)) P := by
              intro nF
              induction nF with
              | zero => intro _ _ _ _ _ _ _ hM; exact absurd hM (Nat.not_lt_zero _)
              | succ nF ih48 =>
                intro b0 mo1 le1 bs1 gg1 hb0 hs1 hM48
                have hpa := pc_in (a := a0)
                have hpb := pc_in (a := b0)
                refine pw_iload r_12_best_48 rfl ?_
                refine pw_const r_12_best_49 ?_
                refine pw_aload r_12_best_50 rfl ?_
                refine pw_getR r_12_best_51 fs_12_61 (by decide) ?_
                refine pw_const r_12_best_54 ?_
                refine pw_ialdv (v := gA G 243 (0) (1)) r_12_best_55 sh243 (by omega) (by omega) (by first | rfl | simp [gF_sF, gF_sA, gF_uA, gF_sD, gA_sF, gA_sA, gA_uA, gA_sD, gD_sF, gD_sA, gD_uA, gD_sD]) ?_
                refine pw_ishl r_12_best_56 ?_
                refine pw_icmp_ge r_12_best_57 (fun h57 => ?_) (fun h57 => ?_)
                · skip
                  refine pw_iinc (b := 0) (ls' := [some (vR 12 (0)), some (vI (le1)), some (vI ((a0 + 1))), some (vI (b0)), none, none]) r_12_best_159 rfl rfl (by omega) rfl ?_
                  refine pw_goto r_12_best_162 ?_
                  refine pw_weakL (ls' := [some (vR 12 (0)), some (vI (le1)), some (vI ((a0 + 1))), none, none, none]) (⟨rfl, ⟨rfl, ⟨rfl, trivial⟩⟩⟩) ?_
                  exact ih34 ((a0 + 1)) (mo1) (le1) (bs1) (gg1) (by first | assumption | omega) (by rw [iter_s _ ha0.1]; exact hs1.trans (congrArg (fun z => iterI (fun y => bstS (ltM G ST WT) a0 y) z (iterI (fun x => bstB (ltM G ST WT) (pShl 1 (gA G 243 0 (1))) x) (a0) (-1, 0, (gA G 244 0 (0)), (gA G 244 0 (1))))) (show b0 = (pShl 1 (gA G 243 0 (1))) by omega))) (by omega)
                · skip
                  refine pw_iload r_12_best_60 rfl ?_
                  refine pw_callS (av := [vI (a0)]) (st := []) (ls0 := [some (vI (a0)), none, none]) r_12_best_61 rfl rfl rfl (Nat.le_refl _) ?_
                  refine sp_X12_countOf (by omega) ?_
                  refine pw_iload r_12_best_64 rfl ?_
                  refine pw_callS (av := [vI (b0)]) (st := [vI (pcF a0)]) (ls0 := [some (vI (b0)), none, none]) r_12_best_65 rfl rfl rfl (Nat.le_refl _) ?_
                  refine sp_X12_countOf (by omega) ?_
                  refine pw_iadd r_12_best_68 (by omega) ?_
                  refine pw_istore (ls' := [some (vR 12 (0)), some (vI (le1)), some (vI (a0)), some (vI (b0)), some (vI (((pcF a0) + (pcF b0)))), none]) r_12_best_69 rfl rfl ?_
                  refine pw_iload r_12_best_71 rfl ?_
                  refine pw_callS (av := [vI (a0)]) (st := []) (ls0 := [some (vI (a0)), none, none]) r_12_best_72 rfl rfl rfl (Nat.le_refl _) ?_
                  refine sp_X12_countOf (by omega) ?_
                  refine pw_iload r_12_best_75 rfl ?_
                  refine pw_callS (av := [vI (b0)]) (st := [vI (pcF a0)]) (ls0 := [some (vI (b0)), none, none]) r_12_best_76 rfl rfl rfl (Nat.le_refl _) ?_
                  refine sp_X12_countOf (by omega) ?_
                  refine pw_isub r_12_best_79 (by omega) ?_
                  refine pw_istore (ls' := [some (vR 12 (0)), some (vI (le1)), some (vI (a0)), some (vI (b0)), some (vI (((pcF a0) + (pcF b0)))), some (vI (((pcF a0) - (pcF b0))))]) r_12_best_80 rfl rfl ?_
                  refine pw_iload r_12_best_82 rfl ?_
                  refine pw_if_ge r_12_best_84 (fun h84 => ?_) (fun h84 => ?_)
                  · skip
                    refine pw_iload r_12_best_93 rfl ?_
                    refine pw_top (b := absI (pcF a0 - pcF b0)) (by unfold absI; first | exact (if_pos (by omega)).symm | exact (if_neg (by omega)).symm) ?_
                    refine pw_istore (ls' := [some (vR 12 (0)), some (vI (le1)), some (vI (a0)), some (vI (b0)), some (vI (((pcF a0) + (pcF b0)))), some (vI (absI (pcF a0 - pcF b0)))]) r_12_best_95 rfl rfl ?_
                    refine pw_iload r_12_best_97 rfl ?_
                    refine pw_aload r_12_best_99 rfl ?_
                    refine pw_getIv (v := mo1) r_12_best_100 fs_12_63 (by decide) (by first | rfl | simp [gF_sF, gF_sA, gF_uA, gF_sD, gA_sF, gA_sA, gA_uA, gA_sD, gD_sF, gD_sA, gD_uA, gD_sD]) ?_
                    refine pw_icmp_gt r_12_best_103 (fun h103 => ?_) (fun h103 => ?_)
                    · skip
                      refine pw_aload r_12_best_121 rfl ?_
                      refine pw_iload r_12_best_122 rfl ?_
                      refine pw_iload r_12_best_123 rfl ?_
                      refine pw_callV (av := [vI (a0), vI (b0)]) (st := []) (ls0 := [some (vR 12 (0)), some (vI (a0)), some (vI (b0)), none, none, none, none, none, none, none, none, none]) r_12_best_124 rfl rfl rfl (Nat.le_refl _) ?_
                      refine sp_X12_fails (ST := ST) (WT := WT) (by exact hsz) (by exact hof) (by exact hlv) (by exact hwi) (by exact hsA) (by exact hc) (by exact hr) (by exact hg9) ?_
                      intro q1
                      refine pw_top (b := vdM G ST WT a0 b0) (vdM_x) ?_
                      refine pw_if_ne r_12_best_127 (fun h127 => ?_) (fun h127 => ?_)
                      · skip
                        refine pw_iinc (b := 0) (ls' := [some (vR 12 (0)), some (vI (le1)), some (vI (a0)), some (vI ((b0 + 1))), some (vI (((pcF a0) + (pcF b0)))), some (vI (absI (pcF a0 - pcF b0)))]) r_12_best_153 rfl rfl (by omega) rfl ?_
                        refine pw_goto r_12_best_156 ?_
                        refine pw_weakL (ls' := [some (vR 12 (0)), some (vI (le1)), some (vI (a0)), some (vI ((b0 + 1))), none, none]) (⟨rfl, ⟨rfl, ⟨rfl, ⟨rfl, trivial⟩⟩⟩⟩) ?_
                        refine pw_eqG (G' := sF (uA (uA (fndM G g9) 244 (0) (bs1)) 247 (0) (q1)) 12 (0) 63 (mo1)) (by first | rfl | (simp (disch := decide) only [uA_sF, sA_sF, sF_sF, uA_uA, sA_uA, sA_uA_ne]; done)) ?_
                        exact ih48 ((b0 + 1)) (mo1) (le1) (bs1) (q1) (by first | assumption | omega) (by rw [iter_s _ hb0.1, ← hs1]; first | (rw [bst_f (fun z => by have y : vdM G ST WT a0 b0 = 0 := z.2; omega)]; done) | (rw [bst_f (fun z => by have y : mo1 < _ ∨ _ ∧ _ < le1 := z.1; omega)]; done)) (by omega)
                      · skip
                        refine pw_aload r_12_best_130 rfl ?_
                        refine pw_iload r_12_best_131 rfl ?_
                        refine pw_putI r_12_best_133 (by decide +kernel) fs_12_63 (by decide) ?_
                        refine pw_iload r_12_best_136 rfl ?_
                        refine pw_istore (ls' := [some (vR 12 (0)), some (vI (absI (pcF a0 - pcF b0))), some (vI (a0)), some (vI (b0)), some (vI (((pcF a0) + (pcF b0)))), some (vI (absI (pcF a0 - pcF b0)))]) r_12_best_138 rfl rfl ?_
                        refine pw_aload r_12_best_139 rfl ?_
                        refine pw_getR r_12_best_140 fs_12_64 (by decide) ?_
                        refine pw_const r_12_best_143 ?_
                        refine pw_iload r_12_best_144 rfl ?_
                        refine pw_iast r_12_best_145 sh244 (by omega) (by omega) ?_
                        refine pw_aload r_12_best_146 rfl ?_
                        refine pw_getR r_12_best_147 fs_12_64 (by decide) ?_
                        refine pw_const r_12_best_150 ?_
                        refine pw_iload r_12_best_151 rfl ?_
                        refine pw_iast r_12_best_152 sh244 (by omega) (by omega) ?_
                        refine pw_iinc (b := 0) (ls' := [some (vR 12 (0)), some (vI (absI (pcF a0 - pcF b0))), some (vI (a0)), some (vI ((b0 + 1))), some (vI (((pcF a0) + (pcF b0)))), some (vI (absI (pcF a0 - pcF b0)))]) r_12_best_153 rfl rfl (by omega) rfl ?_
                        refine pw_goto r_12_best_156 ?_
                        refine pw_weakL (ls' := [some (vR 12 (0)), some (vI (absI (pcF a0 - pcF b0))), some (vI (a0)), some (vI ((b0 + 1))), none, none]) (⟨rfl, ⟨rfl, ⟨rfl, ⟨rfl, trivial⟩⟩⟩⟩) ?_
                        refine pw_eqG (G' := sF (uA (uA (fndM G g9) 244 (0) ((upA (upA bs1 0 a0) 1 b0))) 247 (0) (q1)) 12 (0) 63 (((pcF a0) + (pcF b0)))) (by first | rfl | (simp (disch := decide) only [uA_sF, sA_sF, sF_sF, uA_uA, sA_uA, sA_uA_ne]; done)) ?_
                        exact ih48 ((b0 + 1)) (((pcF a0) + (pcF b0))) (absI (pcF a0 - pcF b0)) ((upA (upA bs1 0 a0) 1 b0)) (q1) (by first | assumption | omega) (by rw [iter_s _ hb0.1, ← hs1]; rw [bst_t ⟨by show mo1 < _ ∨ _ ∧ _ < le1; omega, (show ltM G ST WT a0 b0 from (show vdM G ST WT a0 b0 = 0 by omega))⟩]; rfl) (by omega)
                    · skip
                      refine pw_iload r_12_best_106 rfl ?_
                      refine pw_aload r_12_best_108 rfl ?_
                      refine pw_getIv (v := mo1) r_12_best_109 fs_12_63 (by decide) (by first | rfl | simp [gF_sF, gF_sA, gF_uA, gF_sD, gA_sF, gA_sA, gA_uA, gA_sD, gD_sF, gD_sA, gD_uA, gD_sD]) ?_
                      refine pw_icmp_ne r_12_best_112 (fun h112 => ?_) (fun h112 => ?_)
                      · skip
                        refine pw_iinc (b := 0) (ls' := [some (vR 12 (0)), some (vI (le1)), some (vI (a0)), some (vI ((b0 + 1))), some (vI (((pcF a0) + (pcF b0)))), some (vI (absI (pcF a0 - pcF b0)))]) r_12_best_153 rfl rfl (by omega) rfl ?_
                        refine pw_goto r_12_best_156 ?_
                        refine pw_weakL (ls' := [some (vR 12 (0)), some (vI (le1)), some (vI (a0)), some (vI ((b0 + 1))), none, none]) (⟨rfl, ⟨rfl, ⟨rfl, ⟨rfl, trivial⟩⟩⟩⟩) ?_
                        exact ih48 ((b0 + 1)) (mo1) (le1) (bs1) (gg1) (by first | assumption | omega) (by rw [iter_s _ hb0.1, ← hs1]; first | (rw [bst_f (fun z => by have y : vdM G ST WT a0 b0 = 0 := z.2; omega)]; done) | (rw [bst_f (fun z => by have y : mo1 < _ ∨ _ ∧ _ < le1 := z.1; omega)]; done)) (by omega)
                      · skip
                        refine pw_iload r_12_best_115 rfl ?_
                        refine pw_iload r_12_best_117 rfl ?_
                        refine pw_icmp_ge r_12_best_118 (fun h118 => ?_) (fun h118 => ?_)
                        · skip
                          refine pw_iinc (b := 0) (ls' := [some (vR 12 (0)), some (vI (le1)), some (vI (a0)), some (vI ((b0 + 1))), some (vI (((pcF a0) + (pcF b0)))), some (vI (absI (pcF a0 - pcF b0)))]) r_12_best_153 rfl rfl (by omega) rfl ?_
                          refine pw_goto r_12_best_156 ?_
                          refine pw_weakL (ls' := [some (vR 12 (0)), some (vI (le1)), some (vI (a0)), some (vI ((b0 + 1))), none, none]) (⟨rfl, ⟨rfl, ⟨rfl, ⟨rfl, trivial⟩⟩⟩⟩) ?_
                          exact ih48 ((b0 + 1)) (mo1) (le1) (bs1) (gg1) (by first | assumption | omega) (by rw [iter_s _ hb0.1, ← hs1]; first | (rw [bst_f (fun z => by have y : vdM G ST WT a0 b0 = 0 := z.2; omega)]; done) | (rw [bst_f (fun z => by have y : mo1 < _ ∨ _ ∧ _ < le1 := z.1; omega)]; done)) (by omega)
                        · skip
                          refine pw_aload r_12_best_121 rfl ?_
                          refine pw_iload r_12_best_122 rfl ?_
                          refine pw_iload r_12_best_123 rfl ?_
                          refine pw_callV (av := [vI (a0), vI (b0)]) (st := []) (ls0 := [some (vR 12 (0)), some (vI (a0)), some (vI (b0)), none, none, none, none, none, none, none, none, none]) r_12_best_124 rfl rfl rfl (Nat.le_refl _) ?_
                          refine sp_X12_fails (ST := ST) (WT := WT) (by exact hsz) (by exact hof) (by exact hlv) (by exact hwi) (by exact hsA) (by exact hc) (by exact hr) (by exact hg9) ?_
                          intro q1
                          refine pw_top (b := vdM G ST WT a0 b0) (vdM_x) ?_
                          refine pw_if_ne r_12_best_127 (fun h127 => ?_) (fun h127 => ?_)
                          · skip
                            refine pw_iinc (b := 0) (ls' := [some (vR 12 (0)), some (vI (le1)), some (vI (a0)), some (vI ((b0 + 1))), some (vI (((pcF a0) + (pcF b0)))), some (vI (absI (pcF a0 - pcF b0)))]) r_12_best_153 rfl rfl (by omega) rfl ?_
                            refine pw_goto r_12_best_156 ?_
                            refine pw_weakL (ls' := [some (vR 12 (0)), some (vI (le1)), some (vI (a0)), some (vI ((b0 + 1))), none, none]) (⟨rfl, ⟨rfl, ⟨rfl, ⟨rfl, trivial⟩⟩⟩⟩) ?_
                            refine pw_eqG (G' := sF (uA (uA (fndM G g9) 244 (0) (bs1)) 247 (0) (q1)) 12 (0) 63 (mo1)) (by first | rfl | (simp (disch := decide) only [uA_sF, sA_sF, sF_sF, uA_uA, sA_uA, sA_uA_ne]; done)) ?_
                            exact ih48 ((b0 + 1)) (mo1) (le1) (bs1) (q1) (by first | assumption | omega) (by rw [iter_s _ hb0.1, ← hs1]; first | (rw [bst_f (fun z => by have y : vdM G ST WT a0 b0 = 0 := z.2; omega)]; done) | (rw [bst_f (fun z => by have y : mo1 < _ ∨ _ ∧ _ < le1 := z.1; omega)]; done)) (by omega)
                          · skip
                            refine pw_aload r_12_best_130 rfl ?_
                            refine pw_iload r_12_best_131 rfl ?_
                            refine pw_putI r_12_best_133 (by decide +kernel) fs_12_63 (by decide) ?_
                            refine pw_iload r_12_best_136 rfl ?_
                            refine pw_istore (ls' := [some (vR 12 (0)), some (vI (absI (pcF a0 - pcF b0))), some (vI (a0)), some (vI (b0)), some (vI (((pcF a0) + (pcF b0)))), some (vI (absI (pcF a0 - pcF b0)))]) r_12_best_138 rfl rfl ?_
                            refine pw_aload r_12_best_139 rfl ?_
                            refine pw_getR r_12_best_140 fs_12_64 (by decide) ?_
                            refine pw_const r_12_best_143 ?_
                            refine pw_iload r_12_best_144 rfl ?_
                            refine pw_iast r_12_best_145 sh244 (by omega) (by omega) ?_
                            refine pw_aload r_12_best_146 rfl ?_
                            refine pw_getR r_12_best_147 fs_12_64 (by decide) ?_
                            refine pw_const r_12_best_150 ?_
                            refine pw_iload r_12_best_151 rfl ?_
                            refine pw_iast r_12_best_152 sh244 (by omega) (by omega) ?_
                            refine pw_iinc (b := 0) (ls' := [some (vR 12 (0)), some (vI (absI (pcF a0 - pcF b0))), some (vI (a0)), some (vI ((b0 + 1))), some (vI (((pcF a0) + (pcF b0)))), some (vI (absI (pcF a0 - pcF b0)))]) r_12_best_153 rfl rfl (by omega) rfl ?_
                            refine pw_goto r_12_best_156 ?_
                            refine pw_weakL (ls' := [some (vR 12 (0)), some (vI (absI (pcF a0 - pcF b0))), some (vI (a0)), some (vI ((b0 + 1))), none, none]) (⟨rfl, ⟨rfl, ⟨rfl, ⟨rfl, trivial⟩⟩⟩⟩) ?_
                            refine pw_eqG (G' := sF (uA (uA (fndM G g9) 244 (0) ((upA (upA bs1 0 a0) 1 b0))) 247 (0) (q1)) 12 (0) 63 (((pcF a0) + (pcF b0)))) (by first | rfl | (simp (disch := decide) only [uA_sF, sA_sF, sF_sF, uA_uA, sA_uA, sA_uA_ne]; done)) ?_
                            exact ih48 ((b0 + 1)) (((pcF a0) + (pcF b0))) (absI (pcF a0 - pcF b0)) ((upA (upA bs1 0 a0) 1 b0)) (q1) (by first | assumption | omega) (by rw [iter_s _ hb0.1, ← hs1]; rw [bst_t ⟨by show mo1 < _ ∨ _ ∧ _ < le1; omega, (show ltM G ST WT a0 b0 from (show vdM G ST WT a0 b0 = 0 by omega))⟩]; rfl) (by omega)
                  · skip
                    refine pw_iload r_12_best_87 rfl ?_
                    refine pw_inegW r_12_best_89 ?_
                    refine pw_goto r_12_best_90 ?_
                    refine pw_top (b := absI (pcF a0 - pcF b0)) (by unfold absI; first | exact (if_pos (by omega)).symm | exact (if_neg (by omega)).symm) ?_
                    refine pw_istore (ls' := [some (vR 12 (0)), some (vI (le1)), some (vI (a0)), some (vI (b0)), some (vI (((pcF a0) + (pcF b0)))), some (vI (absI (pcF a0 - pcF b0)))]) r_12_best_95 rfl rfl ?_
                    refine pw_iload r_12_best_97 rfl ?_
                    refine pw_aload r_12_best_99 rfl ?_
                    refine pw_getIv (v := mo1) r_12_best_100 fs_12_63 (by decide) (by first | rfl | simp [gF_sF, gF_sA, gF_uA, gF_sD, gA_sF, gA_sA, gA_uA, gA_sD, gD_sF, gD_sA, gD_uA, gD_sD]) ?_
                    refine pw_icmp_gt r_12_best_103 (fun h103 => ?_) (fun h103 => ?_)
                    · skip
                      refine pw_aload r_12_best_121 rfl ?_
                      refine pw_iload r_12_best_122 rfl ?_
                      refine pw_iload r_12_best_123 rfl ?_
                      refine pw_callV (av := [vI (a0), vI (b0)]) (st := []) (ls0 := [some (vR 12 (0)), some (vI (a0)), some (vI (b0)), none, none, none, none, none, none, none, none, none]) r_12_best_124 rfl rfl rfl (Nat.le_refl _) ?_
                      refine sp_X12_fails (ST := ST) (WT := WT) (by exact hsz) (by exact hof) (by exact hlv) (by exact hwi) (by exact hsA) (by exact hc) (by exact hr) (by exact hg9) ?_
                      intro q1
                      refine pw_top (b := vdM G ST WT a0 b0) (vdM_x) ?_
                      refine pw_if_ne r_12_best_127 (fun h127 => ?_) (fun h127 => ?_)
                      · skip
                        refine pw_iinc (b := 0) (ls' := [some (vR 12 (0)), some (vI (le1)), some (vI (a0)), some (vI ((b0 + 1))), some (vI (((pcF a0) + (pcF b0)))), some (vI (absI (pcF a0 - pcF b0)))]) r_12_best_153 rfl rfl (by omega) rfl ?_
                        refine pw_goto r_12_best_156 ?_
                        refine pw_weakL (ls' := [some (vR 12 (0)), some (vI (le1)), some (vI (a0)), some (vI ((b0 + 1))), none, none]) (⟨rfl, ⟨rfl, ⟨rfl, ⟨rfl, trivial⟩⟩⟩⟩) ?_
                        refine pw_eqG (G' := sF (uA (uA (fndM G g9) 244 (0) (bs1)) 247 (0) (q1)) 12 (0) 63 (mo1)) (by first | rfl | (simp (disch := decide) only [uA_sF, sA_sF, sF_sF, uA_uA, sA_uA, sA_uA_ne]; done)) ?_
                        exact ih48 ((b0 + 1)) (mo1) (le1) (bs1) (q1) (by first | assumption | omega) (by rw [iter_s _ hb0.1, ← hs1]; first | (rw [bst_f (fun z => by have y : vdM G ST WT a0 b0 = 0 := z.2; omega)]; done) | (rw [bst_f (fun z => by have y : mo1 < _ ∨ _ ∧ _ < le1 := z.1; omega)]; done)) (by omega)
                      · skip
                        refine pw_aload r_12_best_130 rfl ?_
                        refine pw_iload r_12_best_131 rfl ?_
                        refine pw_putI r_12_best_133 (by decide +kernel) fs_12_63 (by decide) ?_
                        refine pw_iload r_12_best_136 rfl ?_
                        refine pw_istore (ls' := [some (vR 12 (0)), some (vI (absI (pcF a0 - pcF b0))), some (vI (a0)), some (vI (b0)), some (vI (((pcF a0) + (pcF b0)))), some (vI (absI (pcF a0 - pcF b0)))]) r_12_best_138 rfl rfl ?_
                        refine pw_aload r_12_best_139 rfl ?_
                        refine pw_getR r_12_best_140 fs_12_64 (by decide) ?_
                        refine pw_const r_12_best_143 ?_
                        refine pw_iload r_12_best_144 rfl ?_
                        refine pw_iast r_12_best_145 sh244 (by omega) (by omega) ?_
                        refine pw_aload r_12_best_146 rfl ?_
                        refine pw_getR r_12_best_147 fs_12_64 (by decide) ?_
                        refine pw_const r_12_best_150 ?_
                        refine pw_iload r_12_best_151 rfl ?_
                        refine pw_iast r_12_best_152 sh244 (by omega) (by omega) ?_
                        refine pw_iinc (b := 0) (ls' := [some (vR 12 (0)), some (vI (absI (pcF a0 - pcF b0))), some (vI (a0)), some (vI ((b0 + 1))), some (vI (((pcF a0) + (pcF b0)))), some (vI (absI (pcF a0 - pcF b0)))]) r_12_best_153 rfl rfl (by omega) rfl ?_
                        refine pw_goto r_12_best_156 ?_
                        refine pw_weakL (ls' := [some (vR 12 (0)), some (vI (absI (pcF a0 - pcF b0))), some (vI (a0)), some (vI ((b0 + 1))), none, none]) (⟨rfl, ⟨rfl, ⟨rfl, ⟨rfl, trivial⟩⟩⟩⟩) ?_
                        refine pw_eqG (G' := sF (uA (uA (fndM G g9) 244 (0) ((upA (upA bs1 0 a0) 1 b0))) 247 (0) (q1)) 12 (0) 63 (((pcF a0) + (pcF b0)))) (by first | rfl | (simp (disch := decide) only [uA_sF, sA_sF, sF_sF, uA_uA, sA_uA, sA_uA_ne]; done)) ?_
                        exact ih48 ((b0 + 1)) (((pcF a0) + (pcF b0))) (absI (pcF a0 - pcF b0)) ((upA (upA bs1 0 a0) 1 b0)) (q1) (by first | assumption | omega) (by rw [iter_s _ hb0.1, ← hs1]; rw [bst_t ⟨by show mo1 < _ ∨ _ ∧ _ < le1; omega, (show ltM G ST WT a0 b0 from (show vdM G ST WT a0 b0 = 0 by omega))⟩]; rfl) (by omega)
                    · skip
                      refine pw_iload r_12_best_106 rfl ?_
                      refine pw_aload r_12_best_108 rfl ?_
                      refine pw_getIv (v := mo1) r_12_best_109 fs_12_63 (by decide) (by first | rfl | simp [gF_sF, gF_sA, gF_uA, gF_sD, gA_sF, gA_sA, gA_uA, gA_sD, gD_sF, gD_sA, gD_uA, gD_sD]) ?_
                      refine pw_icmp_ne r_12_best_112 (fun h112 => ?_) (fun h112 => ?_)
                      · skip
                        refine pw_iinc (b := 0) (ls' := [some (vR 12 (0)), some (vI (le1)), some (vI (a0)), some (vI ((b0 + 1))), some (vI (((pcF a0) + (pcF b0)))), some (vI (absI (pcF a0 - pcF b0)))]) r_12_best_153 rfl rfl (by omega) rfl ?_
                        refine pw_goto r_12_best_156 ?_
                        refine pw_weakL (ls' := [some (vR 12 (0)), some (vI (le1)), some (vI (a0)), some (vI ((b0 + 1))), none, none]) (⟨rfl, ⟨rfl, ⟨rfl, ⟨rfl, trivial⟩⟩⟩⟩) ?_
                        exact ih48 ((b0 + 1)) (mo1) (le1) (bs1) (gg1) (by first | assumption | omega) (by rw [iter_s _ hb0.1, ← hs1]; first | (rw [bst_f (fun z => by have y : vdM G ST WT a0 b0 = 0 := z.2; omega)]; done) | (rw [bst_f (fun z => by have y : mo1 < _ ∨ _ ∧ _ < le1 := z.1; omega)]; done)) (by omega)
                      · skip
                        refine pw_iload r_12_best_115 rfl ?_
                        refine pw_iload r_12_best_117 rfl ?_
                        refine pw_icmp_ge r_12_best_118 (fun h118 => ?_) (fun h118 => ?_)
                        · skip
                          refine pw_iinc (b := 0) (ls' := [some (vR 12 (0)), some (vI (le1)), some (vI (a0)), some (vI ((b0 + 1))), some (vI (((pcF a0) + (pcF b0)))), some (vI (absI (pcF a0 - pcF b0)))]) r_12_best_153 rfl rfl (by omega) rfl ?_
                          refine pw_goto r_12_best_156 ?_
                          refine pw_weakL (ls' := [some (vR 12 (0)), some (vI (le1)), some (vI (a0)), some (vI ((b0 + 1))), none, none]) (⟨rfl, ⟨rfl, ⟨rfl, ⟨rfl, trivial⟩⟩⟩⟩) ?_
                          exact ih48 ((b0 + 1)) (mo1) (le1) (bs1) (gg1) (by first | assumption | omega) (by rw [iter_s _ hb0.1, ← hs1]; first | (rw [bst_f (fun z => by have y : vdM G ST WT a0 b0 = 0 := z.2; omega)]; done) | (rw [bst_f (fun z => by have y : mo1 < _ ∨ _ ∧ _ < le1 := z.1; omega)]; done)) (by omega)
                        · skip
                          refine pw_aload r_12_best_121 rfl ?_
                          refine pw_iload r_12_best_122 rfl ?_
                          refine pw_iload r_12_best_123 rfl ?_
                          refine pw_callV (av := [vI (a0), vI (b0)]) (st := []) (ls0 := [some (vR 12 (0)), some (vI (a0)), some (vI (b0)), none, none, none, none, none, none, none, none, none]) r_12_best_124 rfl rfl rfl (Nat.le_refl _) ?_
                          refine sp_X12_fails (ST := ST) (WT := WT) (by exact hsz) (by exact hof) (by exact hlv) (by exact hwi) (by exact hsA) (by exact hc) (by exact hr) (by exact hg9) ?_
                          intro q1
                          refine pw_top (b := vdM G ST WT a0 b0) (vdM_x) ?_
                          refine pw_if_ne r_12_best_127 (fun h127 => ?_) (fun h127 => ?_)
                          · skip
                            refine pw_iinc (b := 0) (ls' := [some (vR 12 (0)), some (vI (le1)), some (vI (a0)), some (vI ((b0 + 1))), some (vI (((pcF a0) + (pcF b0)))), some (vI (absI (pcF a0 - pcF b0)))]) r_12_best_153 rfl rfl (by omega) rfl ?_
                            refine pw_goto r_12_best_156 ?_
                            refine pw_weakL (ls' := [some (vR 12 (0)), some (vI (le1)), some (vI (a0)), some (vI ((b0 + 1))), none, none]) (⟨rfl, ⟨rfl, ⟨rfl, ⟨rfl, trivial⟩⟩⟩⟩) ?_
                            refine pw_eqG (G' := sF (uA (uA (fndM G g9) 244 (0) (bs1)) 247 (0) (q1)) 12 (0) 63 (mo1)) (by first | rfl | (simp (disch := decide) only [uA_sF, sA_sF, sF_sF, uA_uA, sA_uA, sA_uA_ne]; done)) ?_
                            exact ih48 ((b0 + 1)) (mo1) (le1) (bs1) (q1) (by first | assumption | omega) (by rw [iter_s _ hb0.1, ← hs1]; first | (rw [bst_f (fun z => by have y : vdM G ST WT a0 b0 = 0 := z.2; omega)]; done) | (rw [bst_f (fun z => by have y : mo1 < _ ∨ _ ∧ _ < le1 := z.1; omega)]; done)) (by omega)
                          · skip
                            refine pw_aload r_12_best_130 rfl ?_
                            refine pw_iload r_12_best_131 rfl ?_
                            refine pw_putI r_12_best_133 (by decide +kernel) fs_12_63 (by decide) ?_
                            refine pw_iload r_12_best_136 rfl ?_
                            refine pw_istore (ls' := [some (vR 12 (0)), some (vI (absI (pcF a0 - pcF b0))), some (vI (a0)), some (vI (b0)), some (vI (((pcF a0) + (pcF b0)))), some (vI (absI (pcF a0 - pcF b0)))]) r_12_best_138 rfl rfl ?_
                            refine pw_aload r_12_best_139 rfl ?_
                            refine pw_getR r_12_best_140 fs_12_64 (by decide) ?_
                            refine pw_const r_12_best_143 ?_
                            refine pw_iload r_12_best_144 rfl ?_
                            refine pw_iast r_12_best_145 sh244 (by omega) (by omega) ?_
                            refine pw_aload r_12_best_146 rfl ?_
                            refine pw_getR r_12_best_147 fs_12_64 (by decide) ?_
                            refine pw_const r_12_best_150 ?_
                            refine pw_iload r_12_best_151 rfl ?_
                            refine pw_iast r_12_best_152 sh244 (by omega) (by omega) ?_
                            refine pw_iinc (b := 0) (ls' := [some (vR 12 (0)), some (vI (absI (pcF a0 - pcF b0))), some (vI (a0)), some (vI ((b0 + 1))), some (vI (((pcF a0) + (pcF b0)))), some (vI (absI (pcF a0 - pcF b0)))]) r_12_best_153 rfl rfl (by omega) rfl ?_
                            refine pw_goto r_12_best_156 ?_
                            refine pw_weakL (ls' := [some (vR 12 (0)), some (vI (absI (pcF a0 - pcF b0))), some (vI (a0)), some (vI ((b0 + 1))), none, none]) (⟨rfl, ⟨rfl, ⟨rfl, ⟨rfl, trivial⟩⟩⟩⟩) ?_
                            refine pw_eqG (G' := sF (uA (uA (fndM G g9) 244 (0) ((upA (upA bs1 0 a0) 1 b0))) 247 (0) (q1)) 12 (0) 63 (((pcF a0) + (pcF b0)))) (by first | rfl | (simp (disch := decide) only [uA_sF, sA_sF, sF_sF, uA_uA, sA_uA, sA_uA_ne]; done)) ?_
                            exact ih48 ((b0 + 1)) (((pcF a0) + (pcF b0))) (absI (pcF a0 - pcF b0)) ((upA (upA bs1 0 a0) 1 b0)) (q1) (by first | assumption | omega) (by rw [iter_s _ hb0.1, ← hs1]; rw [bst_t ⟨by show mo1 < _ ∨ _ ∧ _ < le1; omega, (show ltM G ST WT a0 b0 from (show vdM G ST WT a0 b0 = 0 by omega))⟩]; rfl) (by omega)
            exact L48 _ (0) (mo) (le) (bs) (gg) (by first | assumption | omega) (hs0) (Nat.lt_succ_self _)
      refine pw_eqG (G' := sF (uA (uA (fndM G g9) 244 (0) ((gA (fndM G g9) 244 0))) 247 (0) ((gA (fndM G g9) 247 0))) 12 (0) 63 ((-1))) (by rw [uA_own, uA_own]) ?_
      exact L34 _ (0) ((-1)) (0) ((gA (fndM G g9) 244 0)) ((gA (fndM G g9) 247 0)) (by first | assumption | omega) (rfl) (Nat.lt_succ_self _)
    · skip
      refine pw_const r_12_best_18 ?_
      refine pw_iret r_12_best_20 rfl (Nat.le_refl _) ⟨rfl, ?_⟩
      exact h1 (by omega)
