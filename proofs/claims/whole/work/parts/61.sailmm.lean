theorem pl_heqM {G : PH} {a c d : Int → Int} {i v : Int} : sA (uA (uA (uA G 234 0 a) 251 0 c) 234 0 d) 251 0 i v = uA (uA G 234 0 d) 251 0 (upA c i v) := by
  refine PH_ext (fun c r k => rfl) (fun c r i => ?_) (fun _ _ _ => rfl)
  simp only [gA_sA, gA_uA, upA]
  (repeat' split) <;> first | rfl | omega
theorem pl_heqM2 {G : PH} {a c d : Int → Int} : uA (uA (uA G 234 0 a) 251 0 c) 234 0 d = uA (uA G 234 0 d) 251 0 c := by
  refine PH_ext (fun c r k => rfl) (fun c r i => ?_) (fun _ _ _ => rfl)
  simp only [gA_uA]
  (repeat' split) <;> first | rfl | omega


theorem r_12_sail_0 : RL M_X12_sail 0 1 1 := Or.inl ⟨1, by decide +kernel, rfl, rfl⟩
theorem r_12_sail_1 : RC M_X12_sail 1 0 2 := ⟨⟨by decide, by decide⟩, Or.inl ⟨by decide +kernel, rfl⟩⟩
theorem r_12_sail_2 : RC M_X12_sail 2 999 5 := ⟨⟨by decide, by decide⟩, Or.inr (Or.inr (Or.inl ⟨by decide +kernel, by decide, rfl⟩))⟩
theorem r_12_sail_5 : RKs M_X12_sail M_X12_within 5 3 8 := ⟨240, by decide +kernel, Or.inl wd_m12_240, ok_M_X12_within, rfl⟩
theorem r_12_sail_8 : RB M_X12_sail 8 (.ifCond .eq) 32 11 := ⟨24, by decide +kernel, rfl, rfl⟩
theorem r_12_sail_32 : RC M_X12_sail 32 (-1) 33 := ⟨⟨by decide, by decide⟩, Or.inl ⟨by decide +kernel, rfl⟩⟩
theorem r_12_sail_33 : RW M_X12_sail 33 .ireturn 34 1 := ⟨by decide +kernel, rfl⟩
theorem r_12_sail_11 : RL M_X12_sail 11 2 12 := Or.inl ⟨2, by decide +kernel, rfl, rfl⟩
theorem r_12_sail_12 : RC M_X12_sail 12 0 13 := ⟨⟨by decide, by decide⟩, Or.inl ⟨by decide +kernel, rfl⟩⟩
theorem r_12_sail_13 : RC M_X12_sail 13 999 16 := ⟨⟨by decide, by decide⟩, Or.inr (Or.inr (Or.inl ⟨by decide +kernel, by decide, rfl⟩))⟩
theorem r_12_sail_16 : RKs M_X12_sail M_X12_within 16 3 19 := ⟨240, by decide +kernel, Or.inl wd_m12_240, ok_M_X12_within, rfl⟩
theorem r_12_sail_19 : RB M_X12_sail 19 (.ifCond .eq) 32 22 := ⟨13, by decide +kernel, rfl, rfl⟩
theorem r_12_sail_22 : RL M_X12_sail 22 3 23 := Or.inl ⟨3, by decide +kernel, rfl, rfl⟩
theorem r_12_sail_23 : RC M_X12_sail 23 1 24 := ⟨⟨by decide, by decide⟩, Or.inl ⟨by decide +kernel, rfl⟩⟩
theorem r_12_sail_24 : RC M_X12_sail 24 30 26 := ⟨⟨by decide, by decide⟩, Or.inr (Or.inl ⟨by decide +kernel, by decide, rfl⟩)⟩
theorem r_12_sail_26 : RKs M_X12_sail M_X12_within 26 3 29 := ⟨240, by decide +kernel, Or.inl wd_m12_240, ok_M_X12_within, rfl⟩
theorem r_12_sail_29 : RB M_X12_sail 29 (.ifCond .ne) 34 32 := ⟨5, by decide +kernel, rfl, rfl⟩
theorem r_12_sail_34 : RA M_X12_sail 34 0 35 := Or.inl ⟨0, by decide +kernel, rfl, rfl⟩
theorem r_12_sail_35 : RG M_X12_sail 35 12 71 38 := ⟨452, _, by decide +kernel, rfl, by decide, wd_f12_452, rfl, rfl⟩
theorem r_12_sail_38 : RB M_X12_sail 38 (.ifCond .ne) 44 41 := ⟨6, by decide +kernel, rfl, rfl⟩
theorem r_12_sail_44 : RC M_X12_sail 44 0 45 := ⟨⟨by decide, by decide⟩, Or.inl ⟨by decide +kernel, rfl⟩⟩
theorem r_12_sail_45 : RS M_X12_sail 45 4 47 := ⟨by decide, Or.inr ⟨by decide +kernel, rfl⟩⟩
theorem r_12_sail_47 : RL M_X12_sail 47 4 49 := Or.inr ⟨by decide +kernel, rfl⟩
theorem r_12_sail_49 : RA M_X12_sail 49 0 50 := Or.inl ⟨0, by decide +kernel, rfl, rfl⟩
theorem r_12_sail_50 : RG M_X12_sail 50 12 71 53 := ⟨452, _, by decide +kernel, rfl, by decide, wd_f12_452, rfl, rfl⟩
theorem r_12_sail_53 : RB M_X12_sail 53 (.if_icmp .ge) 124 56 := ⟨71, by decide +kernel, rfl, rfl⟩
theorem r_12_sail_124 : RA M_X12_sail 124 0 125 := Or.inl ⟨0, by decide +kernel, rfl, rfl⟩
theorem r_12_sail_125 : RL M_X12_sail 125 1 126 := Or.inl ⟨1, by decide +kernel, rfl, rfl⟩
theorem r_12_sail_126 : RP M_X12_sail 126 12 79 129 := ⟨461, _, by decide +kernel, rfl, by decide, wd_f12_461, rfl, Or.inl rfl, rfl⟩
theorem r_12_sail_129 : RA M_X12_sail 129 0 130 := Or.inl ⟨0, by decide +kernel, rfl, rfl⟩
theorem r_12_sail_130 : RL M_X12_sail 130 2 131 := Or.inl ⟨2, by decide +kernel, rfl, rfl⟩
theorem r_12_sail_131 : RP M_X12_sail 131 12 80 134 := ⟨464, _, by decide +kernel, rfl, by decide, wd_f12_464, rfl, Or.inl rfl, rfl⟩
theorem r_12_sail_134 : RA M_X12_sail 134 0 135 := Or.inl ⟨0, by decide +kernel, rfl, rfl⟩
theorem r_12_sail_135 : RL M_X12_sail 135 3 136 := Or.inl ⟨3, by decide +kernel, rfl, rfl⟩
theorem r_12_sail_136 : RP M_X12_sail 136 12 81 139 := ⟨467, _, by decide +kernel, rfl, by decide, wd_f12_467, rfl, Or.inl rfl, rfl⟩
theorem r_12_sail_139 : RA M_X12_sail 139 0 140 := Or.inl ⟨0, by decide +kernel, rfl, rfl⟩
theorem r_12_sail_140 : RC M_X12_sail 140 (-1) 141 := ⟨⟨by decide, by decide⟩, Or.inl ⟨by decide +kernel, rfl⟩⟩
theorem r_12_sail_141 : RP M_X12_sail 141 12 78 144 := ⟨455, _, by decide +kernel, rfl, by decide, wd_f12_455, rfl, Or.inl rfl, rfl⟩
theorem r_12_sail_144 : RA M_X12_sail 144 0 145 := Or.inl ⟨0, by decide +kernel, rfl, rfl⟩
theorem r_12_sail_145 : RC M_X12_sail 145 0 146 := ⟨⟨by decide, by decide⟩, Or.inl ⟨by decide +kernel, rfl⟩⟩
theorem r_12_sail_146 : RC M_X12_sail 146 1 147 := ⟨⟨by decide, by decide⟩, Or.inl ⟨by decide +kernel, rfl⟩⟩
theorem r_12_sail_147 : RA M_X12_sail 147 0 148 := Or.inl ⟨0, by decide +kernel, rfl, rfl⟩
theorem r_12_sail_148 : RG M_X12_sail 148 12 71 151 := ⟨452, _, by decide +kernel, rfl, by decide, wd_f12_452, rfl, rfl⟩
theorem r_12_sail_151 : RW M_X12_sail 151 .ishl 152 1 := ⟨by decide +kernel, rfl⟩
theorem r_12_sail_152 : RC M_X12_sail 152 1 153 := ⟨⟨by decide, by decide⟩, Or.inl ⟨by decide +kernel, rfl⟩⟩
theorem r_12_sail_153 : RW M_X12_sail 153 .isub 154 1 := ⟨by decide +kernel, rfl⟩
theorem r_12_sail_154 : RA M_X12_sail 154 0 155 := Or.inl ⟨0, by decide +kernel, rfl, rfl⟩
theorem r_12_sail_155 : RG M_X12_sail 155 12 0 158 := ⟨268, _, by decide +kernel, rfl, by decide, wd_f12_268, rfl, rfl⟩
theorem r_12_sail_158 : RC M_X12_sail 158 0 159 := ⟨⟨by decide, by decide⟩, Or.inl ⟨by decide +kernel, rfl⟩⟩
theorem r_12_sail_159 : RKv M_X12_sail M_X12_sails 159 4 12 162 := ⟨470, by decide +kernel, wd_m12_470, ok_M_X12_sails, wd_s12_sails, rfl⟩
theorem r_12_sail_162 : RA M_X12_sail 162 0 163 := Or.inl ⟨0, by decide +kernel, rfl, rfl⟩
theorem r_12_sail_163 : RC M_X12_sail 163 0 164 := ⟨⟨by decide, by decide⟩, Or.inl ⟨by decide +kernel, rfl⟩⟩
theorem r_12_sail_164 : RP M_X12_sail 164 12 71 167 := ⟨452, _, by decide +kernel, rfl, by decide, wd_f12_452, rfl, Or.inl rfl, rfl⟩
theorem r_12_sail_167 : RA M_X12_sail 167 0 168 := Or.inl ⟨0, by decide +kernel, rfl, rfl⟩
theorem r_12_sail_168 : RG M_X12_sail 168 12 78 171 := ⟨455, _, by decide +kernel, rfl, by decide, wd_f12_455, rfl, rfl⟩
theorem r_12_sail_171 : RW M_X12_sail 171 .ireturn 172 1 := ⟨by decide +kernel, rfl⟩
theorem r_12_sail_56 : RA M_X12_sail 56 0 57 := Or.inl ⟨0, by decide +kernel, rfl, rfl⟩
theorem r_12_sail_57 : RA M_X12_sail 57 0 58 := Or.inl ⟨0, by decide +kernel, rfl, rfl⟩
theorem r_12_sail_58 : RG M_X12_sail 58 12 68 61 := ⟨165, _, by decide +kernel, rfl, by decide, wd_f12_165, rfl, rfl⟩
theorem r_12_sail_61 : RL M_X12_sail 61 4 63 := Or.inr ⟨by decide +kernel, rfl⟩
theorem r_12_sail_63 : RW M_X12_sail 63 .iaload 64 1 := ⟨by decide +kernel, rfl⟩
theorem r_12_sail_64 : RC M_X12_sail 64 16 66 := ⟨⟨by decide, by decide⟩, Or.inr (Or.inl ⟨by decide +kernel, by decide, rfl⟩)⟩
theorem r_12_sail_66 : RKv M_X12_sail M_X12_farOf 66 2 12 69 := ⟨261, by decide +kernel, wd_m12_261, ok_M_X12_farOf, wd_s12_farOf, rfl⟩
theorem r_12_sail_69 : RS M_X12_sail 69 5 71 := ⟨by decide, Or.inr ⟨by decide +kernel, rfl⟩⟩
theorem r_12_sail_71 : RA M_X12_sail 71 0 72 := Or.inl ⟨0, by decide +kernel, rfl, rfl⟩
theorem r_12_sail_72 : RG M_X12_sail 72 12 69 75 := ⟨168, _, by decide +kernel, rfl, by decide, wd_f12_168, rfl, rfl⟩
theorem r_12_sail_75 : RL M_X12_sail 75 4 77 := Or.inr ⟨by decide +kernel, rfl⟩
theorem r_12_sail_77 : RW M_X12_sail 77 .iaload 78 1 := ⟨by decide +kernel, rfl⟩
theorem r_12_sail_78 : RL M_X12_sail 78 1 79 := Or.inl ⟨1, by decide +kernel, rfl, rfl⟩
theorem r_12_sail_79 : RB M_X12_sail 79 (.if_icmp .gt) 101 82 := ⟨22, by decide +kernel, rfl, rfl⟩
theorem r_12_sail_101 : RC M_X12_sail 101 (-4) 103 := ⟨⟨by decide, by decide⟩, Or.inr (Or.inl ⟨by decide +kernel, by decide, rfl⟩)⟩
theorem r_12_sail_103 : RW M_X12_sail 103 .ireturn 104 1 := ⟨by decide +kernel, rfl⟩
theorem r_12_sail_82 : RA M_X12_sail 82 0 83 := Or.inl ⟨0, by decide +kernel, rfl, rfl⟩
theorem r_12_sail_83 : RG M_X12_sail 83 12 70 86 := ⟨171, _, by decide +kernel, rfl, by decide, wd_f12_171, rfl, rfl⟩
theorem r_12_sail_86 : RL M_X12_sail 86 4 88 := Or.inr ⟨by decide +kernel, rfl⟩
theorem r_12_sail_88 : RW M_X12_sail 88 .iaload 89 1 := ⟨by decide +kernel, rfl⟩
theorem r_12_sail_89 : RL M_X12_sail 89 2 90 := Or.inl ⟨2, by decide +kernel, rfl, rfl⟩
theorem r_12_sail_90 : RB M_X12_sail 90 (.if_icmp .gt) 101 93 := ⟨11, by decide +kernel, rfl, rfl⟩
theorem r_12_sail_93 : RL M_X12_sail 93 5 95 := Or.inr ⟨by decide +kernel, rfl⟩
theorem r_12_sail_95 : RC M_X12_sail 95 100000 98 := ⟨⟨by decide, by decide⟩, Or.inr (Or.inr (Or.inr (Or.inr ⟨260, by decide +kernel, wd_c12_260, rfl⟩)))⟩
theorem r_12_sail_98 : RB M_X12_sail 98 (.if_icmp .lt) 104 101 := ⟨6, by decide +kernel, rfl, rfl⟩
theorem r_12_sail_104 : RA M_X12_sail 104 0 105 := Or.inl ⟨0, by decide +kernel, rfl, rfl⟩
theorem r_12_sail_105 : RG M_X12_sail 105 12 72 108 := ⟨174, _, by decide +kernel, rfl, by decide, wd_f12_174, rfl, rfl⟩
theorem r_12_sail_108 : RL M_X12_sail 108 4 110 := Or.inr ⟨by decide +kernel, rfl⟩
theorem r_12_sail_110 : RA M_X12_sail 110 0 111 := Or.inl ⟨0, by decide +kernel, rfl, rfl⟩
theorem r_12_sail_111 : RG M_X12_sail 111 12 0 114 := ⟨268, _, by decide +kernel, rfl, by decide, wd_f12_268, rfl, rfl⟩
theorem r_12_sail_114 : RL M_X12_sail 114 5 116 := Or.inr ⟨by decide +kernel, rfl⟩
theorem r_12_sail_116 : RW M_X12_sail 116 .iadd 117 1 := ⟨by decide +kernel, rfl⟩
theorem r_12_sail_117 : RW M_X12_sail 117 .iastore 118 1 := ⟨by decide +kernel, rfl⟩
theorem r_12_sail_118 : RI M_X12_sail 118 4 1 121 := ⟨by decide, by decide +kernel, rfl⟩
theorem r_12_sail_121 : RB M_X12_sail 121 .goto 47 124 := ⟨(-74), by decide +kernel, rfl, rfl⟩
theorem r_12_sail_41 : RC M_X12_sail 41 (-3) 43 := ⟨⟨by decide, by decide⟩, Or.inr (Or.inl ⟨by decide +kernel, by decide, rfl⟩)⟩
theorem r_12_sail_43 : RW M_X12_sail 43 .ireturn 44 1 := ⟨by decide +kernel, rfl⟩
set_option maxRecDepth 10000 in
theorem sp_X12_sail {l : Launch} {w : Wo} {d : Nat} {G : PH} {P : Option PV → PH → Prop} {s f u : Int} (hc : 0 ≤ (gF G 12 0 3) ∧ (gF G 12 0 3) ≤ 16) (hr : ∀ k, 0 ≤ k → k < 324 → 0 ≤ (gA G 202 0 (k)) ∧ (gA G 202 0 (k)) ≤ 9) (hlo : 0 ≤ (gF G 12 0 71) ∧ (gF G 12 0 71) ≤ 6) (hg : ∀ i, 0 ≤ i → i < (gF G 12 0 71) → (0 ≤ (gA G 249 0 (i)) ∧ (gA G 249 0 (i)) ≤ 99) ∧ 0 ≤ (gA G 250 0 (i)) ∧ (gA G 250 0 (i)) ≤ 99) (hcm : ∀ i, 0 ≤ i → i < (gF G 12 0 71) → 0 ≤ (gA G 248 0 (i)) ∧ (gA G 248 0 (i)) < 16) (hdy : 0 ≤ (gF G 12 0 0) ∧ (gF G 12 0 0) ≤ 600) (hb : ((0 ≤ s ∧ s ≤ 999) ∧ (0 ≤ f ∧ f ≤ 999) ∧ 1 ≤ u ∧ u ≤ 30) → ∀ R : Int → Int, (∀ y, 0 ≤ y → y < (gF G 12 0 71) → (gA G 249 0 (y)) ≤ s ∧ (gA G 250 0 (y)) ≤ f ∧ fgM G (gA G 248 0 (y)) (R y - (gF G 12 0 0))) → ∀ y, 0 ≤ y → y < (gF G 12 0 71) → R y ≤ 762) (h1 : ¬ ((0 ≤ s ∧ s ≤ 999) ∧ (0 ≤ f ∧ f ≤ 999) ∧ 1 ≤ u ∧ u ≤ 30) → P (some (vI (-1))) G) (h2 : ((0 ≤ s ∧ s ≤ 999) ∧ (0 ≤ f ∧ f ≤ 999) ∧ 1 ≤ u ∧ u ≤ 30) → (gF G 12 0 71) = 0 → P (some (vI (-3))) G) (h3 : ((0 ≤ s ∧ s ≤ 999) ∧ (0 ≤ f ∧ f ≤ 999) ∧ 1 ≤ u ∧ u ≤ 30) → (gF G 12 0 71) ≠ 0 → ∀ (i : Int) (Dx R : Int → Int), 0 ≤ i → i < (gF G 12 0 71) → (s < (gA G 249 0 (i)) ∨ f < (gA G 250 0 (i)) ∨ nfM G (gA G 248 0 (i))) → P (some (vI (-4))) (uA (uA G 234 0 (Dx)) 251 0 (R))) (h4 : ((0 ≤ s ∧ s ≤ 999) ∧ (0 ≤ f ∧ f ≤ 999) ∧ 1 ≤ u ∧ u ≤ 30) → (gF G 12 0 71) ≠ 0 → ∀ (Dx R : Int → Int) (q : SSt), (∀ y, 0 ≤ y → y < (gF G 12 0 71) → (gA G 249 0 (y)) ≤ s ∧ (gA G 250 0 (y)) ≤ f ∧ fgM G (gA G 248 0 (y)) (R y - (gF G 12 0 0))) → q = saiN (fun x => sbI (gA G 249 0) x (gF G 12 0 71) ≤ s ∧ sbI (gA G 250 0) x (gF G 12 0 71) ≤ f) (fun x => sbI (gA G 249 0) x (gF G 12 0 71) + sbI (gA G 250 0) x (gF G 12 0 71)) (fun y x => mxI R x y (gF G 12 0 71)) u 7 0 (pShl 1 (gF G 12 0 71) - 1) (gF G 12 0 0) 0 (sqM G 1000000000) → P (some (vI (unl q.2.2.1))) (sF (shpM (sF (sF (sF (sF (uA (uA G 234 0 (Dx)) 251 0 (R)) 12 0 79 (s)) 12 0 80 (f)) 12 0 81 (u)) 12 0 78 (-1)) q) 12 0 71 (0))) : PW l w M_X12_sail (d + 9) 0 [some (vR 12 (0)), some (vI (s)), some (vI (f)), some (vI (u)), none, none] [] G P := by
  have hsh := shl_in (n := (gF G 12 0 71)) (by omega)
  have hs64 : pShl 1 (gF G 12 0 71) ≤ 64 ∧ pcF (pShl 1 (gF G 12 0 71) - 1) ≤ 6 := shl_64 hlo
  refine pw_iload r_12_sail_0 rfl ?_
  refine pw_const r_12_sail_1 ?_
  refine pw_const r_12_sail_2 ?_
  refine pw_callS (av := [vI (s), vI (0), vI (999)]) (st := []) (ls0 := [some (vI (s)), some (vI (0)), some (vI (999))]) r_12_sail_5 rfl rfl rfl (Nat.le_refl _) ?_
  refine sp_X12_within  ?_
  refine pw_if_eqB r_12_sail_8 (fun h08 => ?_) (fun h08 => ?_)
  · skip
    refine pw_const r_12_sail_32 ?_
    refine pw_iret r_12_sail_33 rfl (Nat.le_refl _) ⟨rfl, ?_⟩
    first | exact h1 (by omega) | exact h4 (by omega) (by omega) Dx R q hR hrec
  · skip
    refine pw_iload r_12_sail_11 rfl ?_
    refine pw_const r_12_sail_12 ?_
    refine pw_const r_12_sail_13 ?_
    refine pw_callS (av := [vI (f), vI (0), vI (999)]) (st := []) (ls0 := [some (vI (f)), some (vI (0)), some (vI (999))]) r_12_sail_16 rfl rfl rfl (Nat.le_refl _) ?_
    refine sp_X12_within  ?_
    refine pw_if_eqB r_12_sail_19 (fun h19 => ?_) (fun h19 => ?_)
    · skip
      refine pw_const r_12_sail_32 ?_
      refine pw_iret r_12_sail_33 rfl (Nat.le_refl _) ⟨rfl, ?_⟩
      first | exact h1 (by omega) | exact h4 (by omega) (by omega) Dx R q hR hrec
    · skip
      refine pw_iload r_12_sail_22 rfl ?_
      refine pw_const r_12_sail_23 ?_
      refine pw_const r_12_sail_24 ?_
      refine pw_callS (av := [vI (u), vI (1), vI (30)]) (st := []) (ls0 := [some (vI (u)), some (vI (1)), some (vI (30))]) r_12_sail_26 rfl rfl rfl (Nat.le_refl _) ?_
      refine sp_X12_within  ?_
      refine pw_if_neB r_12_sail_29 (fun h29 => ?_) (fun h29 => ?_)
      · skip
        refine pw_aload r_12_sail_34 rfl ?_
        refine pw_getI r_12_sail_35 fs_12_71 (by decide) ?_
        refine pw_if_ne r_12_sail_38 (fun h38 => ?_) (fun h38 => ?_)
        · skip
          refine pw_const r_12_sail_44 ?_
          refine pw_istore (ls' := [some (vR 12 (0)), some (vI (s)), some (vI (f)), some (vI (u)), some (vI (0)), none]) r_12_sail_45 rfl rfl ?_
          have L47 : ∀ (nF : Nat) (i : Int) (Dx R : Int → Int), (hi : 0 ≤ i ∧ i ≤ (gF G 12 0 71)) → (hR : ∀ y, 0 ≤ y → y < i → (gA G 249 0 (y)) ≤ s ∧ (gA G 250 0 (y)) ≤ f ∧ fgM G (gA G 248 0 (y)) (R y - (gF G 12 0 0))) → ((gF G 12 0 71) - i).toNat < nF → PW l w M_X12_sail (d + 9) 47 [some (vR 12 (0)), some (vI (s)), some (vI (f)), some (vI (u)), some (vI (i)), none] [] (uA (uA G 234 (0) (Dx)) 251 (0) (R)) P := by
            intro nF
            induction nF with
            | zero => intro _ _ _ _ _ hM; exact absurd hM (Nat.not_lt_zero _)
            | succ nF ih47 =>
              intro i Dx R hi hR hM47
              refine pw_iload r_12_sail_47 rfl ?_
              refine pw_aload r_12_sail_49 rfl ?_
              refine pw_getIv (v := gF G 12 (0) 71) r_12_sail_50 fs_12_71 (by decide) (by first | rfl | simp [gF_sF, gF_sA, gF_uA, gF_sD, gA_sF, gA_sA, gA_uA, gA_sD, gD_sF, gD_sA, gD_uA, gD_sD]) ?_
              refine pw_icmp_ge r_12_sail_53 (fun h53 => ?_) (fun h53 => ?_)
              · skip
                have eT : i = (gF G 12 0 71) := by omega
                rw [eT] at hR
                have hR7 := hb ⟨by omega, by omega, by omega⟩ R hR
                refine pw_aload r_12_sail_124 rfl ?_
                refine pw_iload r_12_sail_125 rfl ?_
                refine pw_putI r_12_sail_126 (by decide +kernel) fs_12_79 (by decide) ?_
                refine pw_aload r_12_sail_129 rfl ?_
                refine pw_iload r_12_sail_130 rfl ?_
                refine pw_putI r_12_sail_131 (by decide +kernel) fs_12_80 (by decide) ?_
                refine pw_aload r_12_sail_134 rfl ?_
                refine pw_iload r_12_sail_135 rfl ?_
                refine pw_putI r_12_sail_136 (by decide +kernel) fs_12_81 (by decide) ?_
                refine pw_aload r_12_sail_139 rfl ?_
                refine pw_const r_12_sail_140 ?_
                refine pw_putI r_12_sail_141 (by decide +kernel) fs_12_78 (by decide) ?_
                refine pw_aload r_12_sail_144 rfl ?_
                refine pw_const r_12_sail_145 ?_
                refine pw_const r_12_sail_146 ?_
                refine pw_aload r_12_sail_147 rfl ?_
                refine pw_getIv (v := gF G 12 (0) 71) r_12_sail_148 fs_12_71 (by decide) (by first | rfl | simp [gF_sF, gF_sA, gF_uA, gF_sD, gA_sF, gA_sA, gA_uA, gA_sD, gD_sF, gD_sA, gD_uA, gD_sD]) ?_
                refine pw_ishl r_12_sail_151 ?_
                refine pw_const r_12_sail_152 ?_
                refine pw_isub r_12_sail_153 (by omega) ?_
                refine pw_aload r_12_sail_154 rfl ?_
                refine pw_getIv (v := gF G 12 (0) 0) r_12_sail_155 fs_12_0 (by decide) (by first | rfl | simp [gF_sF, gF_sA, gF_uA, gF_sD, gA_sF, gA_sA, gA_uA, gA_sD, gD_sF, gD_sA, gD_uA, gD_sD]) ?_
                refine pw_const r_12_sail_158 ?_
                refine pw_callV (av := [vI (0), vI (((pShl 1 (gF G 12 (0) 71)) - 1)), vI (gF G 12 (0) 0), vI (0)]) (st := []) (ls0 := [some (vR 12 (0)), some (vI (0)), some (vI (((pShl 1 (gF G 12 (0) 71)) - 1))), some (vI (gF G 12 (0) 0)), some (vI (0)), none, none, none, none, none]) r_12_sail_159 rfl rfl rfl (Nat.le_refl _) ?_
                refine sp_X12_sails (7) (d := d) (n := (0 : Int)) (r := (pShl 1 (gF G 12 0 71) - 1)) (f := (gF G 12 0 0)) (m := (0 : Int)) (L := (1000000000 : Int)) (FT := (fun x => sbI (gA G 249 0) x (gF G 12 0 71) ≤ s ∧ sbI (gA G 250 0) x (gF G 12 0 71) ≤ f)) (PP := (fun x => sbI (gA G 249 0) x (gF G 12 0 71) + sbI (gA G 250 0) x (gF G 12 0 71))) (DY := (fun y x => mxI R x y (gF G 12 0 71))) (tn := u) (by omega) (by exact hlo) (by exact hs64.1) (by exact ⟨by decide, by decide, by have := hs64.2; omega⟩) (by exact ⟨by omega, by show pShl 1 (gF G 12 0 71) - 1 < pShl 1 (gF G 12 0 71); omega⟩) (by exact hdy.1) (by exact ⟨by exact Int.le_refl _, by show (gF G 12 0 0) ≤ 762 + 30 * 0; omega⟩) (by omega) (by exact ⟨rfl, by omega, by omega⟩) (by exact hg) (by exact hR7) (by exact rfl) (by exact rfl) (by exact rfl) (by exact ⟨rfl, by decide, by decide⟩) ?_
                intro q hrec hq
                refine pw_aload r_12_sail_162 rfl ?_
                refine pw_const r_12_sail_163 ?_
                refine pw_putI r_12_sail_164 (by decide +kernel) fs_12_71 (by decide) ?_
                refine pw_aload r_12_sail_167 rfl ?_
                refine pw_getIv (v := gF (shpM (sF (sF (sF (sF (uA (uA G 234 (0) (Dx)) 251 (0) (R)) 12 (0) 79 (s)) 12 (0) 80 (f)) 12 (0) 81 (u)) 12 (0) 78 ((-1))) q) 12 (0) 78) r_12_sail_168 fs_12_78 (by decide) (by first | rfl | simp [gF_sF, gF_sA, gF_uA, gF_sD, gA_sF, gA_sA, gA_uA, gA_sD, gD_sF, gD_sA, gD_uA, gD_sD]) ?_
                refine pw_iret r_12_sail_171 rfl (Nat.le_refl _) ⟨rfl, ?_⟩
                first | exact h1 (by omega) | exact h4 (by omega) (by omega) Dx R q hR hrec
              · skip
                refine pw_aload r_12_sail_56 rfl ?_
                refine pw_aload r_12_sail_57 rfl ?_
                refine pw_getR r_12_sail_58 fs_12_68 (by decide) ?_
                refine pw_iload r_12_sail_61 rfl ?_
                refine pw_ialdv (v := gA G 248 (0) (i)) r_12_sail_63 sh248 (by omega) (by omega) (by first | rfl | simp [gF_sF, gF_sA, gF_uA, gF_sD, gA_sF, gA_sA, gA_uA, gA_sD, gD_sF, gD_sA, gD_uA, gD_sD]) ?_
                refine pw_const r_12_sail_64 ?_
                refine pw_callV (av := [vI (gA G 248 (0) (i)), vI (16)]) (st := []) (ls0 := [some (vR 12 (0)), some (vI (gA G 248 (0) (i))), some (vI (16)), none, none, none, none, none]) r_12_sail_66 rfl rfl rfl (Nat.le_refl _) ?_
                refine sp_X12_farOf (by exact hcm i hi.1 (by omega)) (by decide) (by exact hr) ?_
                intro Dr hDr
                refine pw_istore (ls' := [some (vR 12 (0)), some (vI (s)), some (vI (f)), some (vI (u)), some (vI (i)), some (vI ((Dr 16)))]) r_12_sail_69 rfl rfl ?_
                have hDt := hDr.2.1 16 (by omega) (by omega)
                refine pw_aload r_12_sail_71 rfl ?_
                refine pw_getR r_12_sail_72 fs_12_69 (by decide) ?_
                refine pw_iload r_12_sail_75 rfl ?_
                refine pw_ialdv (v := gA G 249 (0) (i)) r_12_sail_77 sh249 (by omega) (by omega) (by first | rfl | simp [gF_sF, gF_sA, gF_uA, gF_sD, gA_sF, gA_sA, gA_uA, gA_sD, gD_sF, gD_sA, gD_uA, gD_sD]) ?_
                refine pw_iload r_12_sail_78 rfl ?_
                refine pw_icmp_gt r_12_sail_79 (fun h79 => ?_) (fun h79 => ?_)
                · skip
                  refine pw_const r_12_sail_101 ?_
                  refine pw_iret r_12_sail_103 rfl (Nat.le_refl _) ⟨rfl, ?_⟩
                  rw [pl_heqM2]; first | exact h3 (by omega) (by omega) i Dr R hi.1 (by omega) (Or.inl (by omega)) | exact h3 (by omega) (by omega) i Dr R hi.1 (by omega) (Or.inr (Or.inl (by omega))) | exact h3 (by omega) (by omega) i Dr R hi.1 (by omega) (Or.inr (Or.inr ⟨Dr, hDr, by omega⟩))
                · skip
                  refine pw_aload r_12_sail_82 rfl ?_
                  refine pw_getR r_12_sail_83 fs_12_70 (by decide) ?_
                  refine pw_iload r_12_sail_86 rfl ?_
                  refine pw_ialdv (v := gA G 250 (0) (i)) r_12_sail_88 sh250 (by omega) (by omega) (by first | rfl | simp [gF_sF, gF_sA, gF_uA, gF_sD, gA_sF, gA_sA, gA_uA, gA_sD, gD_sF, gD_sA, gD_uA, gD_sD]) ?_
                  refine pw_iload r_12_sail_89 rfl ?_
                  refine pw_icmp_gt r_12_sail_90 (fun h90 => ?_) (fun h90 => ?_)
                  · skip
                    refine pw_const r_12_sail_101 ?_
                    refine pw_iret r_12_sail_103 rfl (Nat.le_refl _) ⟨rfl, ?_⟩
                    rw [pl_heqM2]; first | exact h3 (by omega) (by omega) i Dr R hi.1 (by omega) (Or.inl (by omega)) | exact h3 (by omega) (by omega) i Dr R hi.1 (by omega) (Or.inr (Or.inl (by omega))) | exact h3 (by omega) (by omega) i Dr R hi.1 (by omega) (Or.inr (Or.inr ⟨Dr, hDr, by omega⟩))
                  · skip
                    refine pw_iload r_12_sail_93 rfl ?_
                    refine pw_const r_12_sail_95 ?_
                    refine pw_icmp_lt r_12_sail_98 (fun h98 => ?_) (fun h98 => ?_)
                    · skip
                      refine pw_aload r_12_sail_104 rfl ?_
                      refine pw_getR r_12_sail_105 fs_12_72 (by decide) ?_
                      refine pw_iload r_12_sail_108 rfl ?_
                      refine pw_aload r_12_sail_110 rfl ?_
                      refine pw_getIv (v := gF G 12 (0) 0) r_12_sail_111 fs_12_0 (by decide) (by first | rfl | simp [gF_sF, gF_sA, gF_uA, gF_sD, gA_sF, gA_sA, gA_uA, gA_sD, gD_sF, gD_sA, gD_uA, gD_sD]) ?_
                      refine pw_iload r_12_sail_114 rfl ?_
                      refine pw_iadd r_12_sail_116 (by omega) ?_
                      refine pw_iast r_12_sail_117 sh251 (by omega) (by omega) ?_
                      refine pw_iinc (b := 0) (ls' := [some (vR 12 (0)), some (vI (s)), some (vI (f)), some (vI (u)), some (vI ((i + 1))), some (vI ((Dr 16)))]) r_12_sail_118 rfl rfl (by omega) rfl ?_
                      refine pw_goto r_12_sail_121 ?_
                      refine pw_weakL (ls' := [some (vR 12 (0)), some (vI (s)), some (vI (f)), some (vI (u)), some (vI ((i + 1))), none]) (⟨rfl, ⟨rfl, ⟨rfl, ⟨rfl, ⟨rfl, trivial⟩⟩⟩⟩⟩) ?_
                      refine pw_eqG (G' := uA (uA G 234 (0) (Dr)) 251 (0) ((upA R i ((gF G 12 (0) 0) + (Dr 16))))) (pl_heqM) ?_
                      exact ih47 ((i + 1)) (Dr) ((upA R i ((gF G 12 (0) 0) + (Dr 16)))) (by first | assumption | omega) (fun y y0 y1 => by by_cases z : y = i; (rw [z]; exact ⟨by omega, by omega, Dr, hDr, by omega, by rw [upA_same]; omega⟩); (have h9 := hR y y0 (by omega); rw [upA_ne z]; exact h9)) (by omega)
                    · skip
                      refine pw_const r_12_sail_101 ?_
                      refine pw_iret r_12_sail_103 rfl (Nat.le_refl _) ⟨rfl, ?_⟩
                      rw [pl_heqM2]; first | exact h3 (by omega) (by omega) i Dr R hi.1 (by omega) (Or.inl (by omega)) | exact h3 (by omega) (by omega) i Dr R hi.1 (by omega) (Or.inr (Or.inl (by omega))) | exact h3 (by omega) (by omega) i Dr R hi.1 (by omega) (Or.inr (Or.inr ⟨Dr, hDr, by omega⟩))
          refine pw_eqG (G' := uA (uA G 234 (0) ((gA G 234 0))) 251 (0) ((gA G 251 0))) (by rw [uA_own, uA_own]) ?_
          exact L47 _ (0) ((gA G 234 0)) ((gA G 251 0)) (by first | assumption | omega) (fun y y0 y1 => by omega) (Nat.lt_succ_self _)
        · skip
          refine pw_const r_12_sail_41 ?_
          refine pw_iret r_12_sail_43 rfl (Nat.le_refl _) ⟨rfl, ?_⟩
          exact h2 (by omega) (by omega)
      · skip
        refine pw_const r_12_sail_32 ?_
        refine pw_iret r_12_sail_33 rfl (Nat.le_refl _) ⟨rfl, ?_⟩
        first | exact h1 (by omega) | exact h4 (by omega) (by omega) Dx R q hR hrec
