theorem bp_row2 {wa wb : Int → Int} {TA TB h a b : Int} {V : Int → Int → Int} (hP : belP wa wb TA TB h V a b) (e : b = -1) : belP wa wb TA TB h V (a + (-1)) TB := by rw [e] at hP; exact bp_row hP
theorem ov_of {wa wb o0 o1 r0 r1 : Int → Int} {n0 n1 TA TB : Int} {t : Int → Int} {o : Int → Int → Int} (hA : RWy n0 wa TA) (hB : RWy n1 wb TB) (lA : LOF wa TA o0 r0) (lB : LOF wb TB o1 r1) (z0 : 0 ≤ n0 ∧ n0 ≤ 10) (z1 : 0 ≤ n1 ∧ n1 ≤ 10) (ht0 : t 0 = TA := by rfl) (ht1 : t 1 = TB := by rfl) (ho0 : o 0 = o0 := by rfl) (ho1 : o 1 = o1 := by rfl) : ∀ r p, 0 ≤ r → r < 2 → 0 ≤ p → p ≤ t r → 0 ≤ o r p ∧ o r p ≤ 10 := by
  have key : ∀ {n T p : Int} {w f g : Int → Int}, RWy n w T → LOF w T f g → n ≤ 10 → 0 ≤ p → p ≤ T → 0 ≤ f p ∧ f p ≤ 10 := fun {n T p w f g} hR hL hn p0 p1 => by
    have a := hL p p0 p1
    have b := hR.2.2.2 p p0 p1
    have c := ps_or (x := plX w p) b.2.1
    by_cases e0 : plK w p = 0
    · have s1 := pl_sum hR p.toNat (by omega)
      rw [Int.toNat_of_nonneg p0, e0] at s1
      have s0 : smW w 0 = 0 := rfl
      omega
    · omega
  intro r p a b c e
  have er : r = 0 ∨ r = 1 := by omega
  rcases er with z | z
  · rw [z] at e ⊢
    rw [ht0] at e
    rw [ho0]
    exact key hA lA z0.2 c e
  · rw [z] at e ⊢
    rw [ht1] at e
    rw [ho1]
    exact key hB lB z1.2 c e

theorem wd_m0_39 : Cond.methodLink "NameRolls$Bridge" 39 M_X0_layOut.1 ∈ UW := UW6_at 86 (by decide +kernel) rfl
theorem wd_s0_layOut : Cond.selects M_X0_layOut.1.cls M_X0_layOut.1 M_X0_layOut.1 ∈ UW := UWp_at 44 (by decide +kernel) rfl
theorem wd_m0_52 : Cond.methodLink "NameRolls$Bridge" 52 M_X0_keepStarts.1 ∈ UW := UW6_at 101 (by decide +kernel) rfl
theorem wd_s0_keepStarts : Cond.selects M_X0_keepStarts.1.cls M_X0_keepStarts.1 M_X0_keepStarts.1 ∈ UW := UWp_at 47 (by decide +kernel) rfl
theorem wd_m0_43 : Cond.methodLink "NameRolls$Bridge" 43 M_X0_leastFrom.1 ∈ UW := UW6_at 90 (by decide +kernel) rfl
theorem wd_s0_leastFrom : Cond.selects M_X0_leastFrom.1.cls M_X0_leastFrom.1 M_X0_leastFrom.1 ∈ UW := UWp_at 45 (by decide +kernel) rfl
theorem wd_m11_204 : Cond.methodLink "NameRolls" 204 M_X0_cross.1 ∈ UW := UW6_at 82 (by decide +kernel) rfl
theorem wd_s0_cross : Cond.selects M_X0_cross.1.cls M_X0_cross.1 M_X0_cross.1 ∈ UW := UW6_at 84 (by decide +kernel) rfl
theorem r_0_cross_0 : RL M_X0_cross 0 1 1 := Or.inl ⟨1, by decide +kernel, rfl, rfl⟩
theorem r_0_cross_1 : RC M_X0_cross 1 1 2 := ⟨⟨by decide, by decide⟩, Or.inl ⟨by decide +kernel, rfl⟩⟩
theorem r_0_cross_2 : RC M_X0_cross 2 3 3 := ⟨⟨by decide, by decide⟩, Or.inl ⟨by decide +kernel, rfl⟩⟩
theorem r_0_cross_3 : RKs M_X0_cross M_X11_within 3 3 6 := ⟨35, by decide +kernel, Or.inr (by decide +kernel), ok_M_X11_within, rfl⟩
theorem r_0_cross_6 : RB M_X0_cross 6 (.ifCond .ne) 11 9 := ⟨5, by decide +kernel, rfl, rfl⟩
theorem r_0_cross_11 : RA M_X0_cross 11 0 12 := Or.inl ⟨0, by decide +kernel, rfl, rfl⟩
theorem r_0_cross_12 : RG M_X0_cross 12 0 1 15 := ⟨16, _, by decide +kernel, rfl, by decide, wd_f0_16, rfl, rfl⟩
theorem r_0_cross_15 : RC M_X0_cross 15 0 16 := ⟨⟨by decide, by decide⟩, Or.inl ⟨by decide +kernel, rfl⟩⟩
theorem r_0_cross_16 : RW M_X0_cross 16 .iaload 17 1 := ⟨by decide +kernel, rfl⟩
theorem r_0_cross_17 : RB M_X0_cross 17 (.ifCond .eq) 29 20 := ⟨12, by decide +kernel, rfl, rfl⟩
theorem r_0_cross_29 : RC M_X0_cross 29 (-3) 31 := ⟨⟨by decide, by decide⟩, Or.inr (Or.inl ⟨by decide +kernel, by decide, rfl⟩)⟩
theorem r_0_cross_31 : RW M_X0_cross 31 .ireturn 32 1 := ⟨by decide +kernel, rfl⟩
theorem r_0_cross_20 : RA M_X0_cross 20 0 21 := Or.inl ⟨0, by decide +kernel, rfl, rfl⟩
theorem r_0_cross_21 : RG M_X0_cross 21 0 1 24 := ⟨16, _, by decide +kernel, rfl, by decide, wd_f0_16, rfl, rfl⟩
theorem r_0_cross_24 : RC M_X0_cross 24 1 25 := ⟨⟨by decide, by decide⟩, Or.inl ⟨by decide +kernel, rfl⟩⟩
theorem r_0_cross_25 : RW M_X0_cross 25 .iaload 26 1 := ⟨by decide +kernel, rfl⟩
theorem r_0_cross_26 : RB M_X0_cross 26 (.ifCond .ne) 32 29 := ⟨6, by decide +kernel, rfl, rfl⟩
theorem r_0_cross_32 : RA M_X0_cross 32 0 33 := Or.inl ⟨0, by decide +kernel, rfl, rfl⟩
theorem r_0_cross_33 : RC M_X0_cross 33 0 34 := ⟨⟨by decide, by decide⟩, Or.inl ⟨by decide +kernel, rfl⟩⟩
theorem r_0_cross_34 : RKv M_X0_cross M_X0_layOut 34 1 0 37 := ⟨39, by decide +kernel, wd_m0_39, ok_M_X0_layOut, wd_s0_layOut, rfl⟩
theorem r_0_cross_37 : RA M_X0_cross 37 0 38 := Or.inl ⟨0, by decide +kernel, rfl, rfl⟩
theorem r_0_cross_38 : RC M_X0_cross 38 1 39 := ⟨⟨by decide, by decide⟩, Or.inl ⟨by decide +kernel, rfl⟩⟩
theorem r_0_cross_39 : RKv M_X0_cross M_X0_layOut 39 1 0 42 := ⟨39, by decide +kernel, wd_m0_39, ok_M_X0_layOut, wd_s0_layOut, rfl⟩
theorem r_0_cross_42 : RA M_X0_cross 42 0 43 := Or.inl ⟨0, by decide +kernel, rfl, rfl⟩
theorem r_0_cross_43 : RG M_X0_cross 43 0 4 46 := ⟨26, _, by decide +kernel, rfl, by decide, wd_f0_26, rfl, rfl⟩
theorem r_0_cross_46 : RC M_X0_cross 46 0 47 := ⟨⟨by decide, by decide⟩, Or.inl ⟨by decide +kernel, rfl⟩⟩
theorem r_0_cross_47 : RW M_X0_cross 47 .iaload 48 1 := ⟨by decide +kernel, rfl⟩
theorem r_0_cross_48 : RS M_X0_cross 48 2 49 := ⟨by decide, Or.inl ⟨2, by decide +kernel, rfl, rfl⟩⟩
theorem r_0_cross_49 : RL M_X0_cross 49 2 50 := Or.inl ⟨2, by decide +kernel, rfl, rfl⟩
theorem r_0_cross_50 : RB M_X0_cross 50 (.ifCond .lt) 94 53 := ⟨44, by decide +kernel, rfl, rfl⟩
theorem r_0_cross_94 : RA M_X0_cross 94 0 95 := Or.inl ⟨0, by decide +kernel, rfl, rfl⟩
theorem r_0_cross_95 : RG M_X0_cross 95 0 5 98 := ⟨29, _, by decide +kernel, rfl, by decide, wd_f0_29, rfl, rfl⟩
theorem r_0_cross_98 : RC M_X0_cross 98 0 99 := ⟨⟨by decide, by decide⟩, Or.inl ⟨by decide +kernel, rfl⟩⟩
theorem r_0_cross_99 : RW M_X0_cross 99 .iaload 100 1 := ⟨by decide +kernel, rfl⟩
theorem r_0_cross_100 : RC M_X0_cross 100 1000000000 102 := ⟨⟨by decide, by decide⟩, Or.inr (Or.inr (Or.inr (Or.inl ⟨47, by decide +kernel, wd_c0_47, rfl⟩)))⟩
theorem r_0_cross_102 : RB M_X0_cross 102 (.if_icmp .lt) 108 105 := ⟨6, by decide +kernel, rfl, rfl⟩
theorem r_0_cross_108 : RA M_X0_cross 108 0 109 := Or.inl ⟨0, by decide +kernel, rfl, rfl⟩
theorem r_0_cross_109 : RA M_X0_cross 109 0 110 := Or.inl ⟨0, by decide +kernel, rfl, rfl⟩
theorem r_0_cross_110 : RG M_X0_cross 110 0 5 113 := ⟨29, _, by decide +kernel, rfl, by decide, wd_f0_29, rfl, rfl⟩
theorem r_0_cross_113 : RC M_X0_cross 113 0 114 := ⟨⟨by decide, by decide⟩, Or.inl ⟨by decide +kernel, rfl⟩⟩
theorem r_0_cross_114 : RW M_X0_cross 114 .iaload 115 1 := ⟨by decide +kernel, rfl⟩
theorem r_0_cross_115 : RP M_X0_cross 115 0 7 118 := ⟨48, _, by decide +kernel, rfl, by decide, wd_f0_48, rfl, Or.inl rfl, rfl⟩
theorem r_0_cross_118 : RA M_X0_cross 118 0 119 := Or.inl ⟨0, by decide +kernel, rfl, rfl⟩
theorem r_0_cross_119 : RL M_X0_cross 119 1 120 := Or.inl ⟨1, by decide +kernel, rfl, rfl⟩
theorem r_0_cross_120 : RKv M_X0_cross M_X0_keepStarts 120 1 0 123 := ⟨52, by decide +kernel, wd_m0_52, ok_M_X0_keepStarts, wd_s0_keepStarts, rfl⟩
theorem r_0_cross_123 : RA M_X0_cross 123 0 124 := Or.inl ⟨0, by decide +kernel, rfl, rfl⟩
theorem r_0_cross_124 : RG M_X0_cross 124 0 1 127 := ⟨16, _, by decide +kernel, rfl, by decide, wd_f0_16, rfl, rfl⟩
theorem r_0_cross_127 : RC M_X0_cross 127 0 128 := ⟨⟨by decide, by decide⟩, Or.inl ⟨by decide +kernel, rfl⟩⟩
theorem r_0_cross_128 : RC M_X0_cross 128 0 129 := ⟨⟨by decide, by decide⟩, Or.inl ⟨by decide +kernel, rfl⟩⟩
theorem r_0_cross_129 : RW M_X0_cross 129 .iastore 130 1 := ⟨by decide +kernel, rfl⟩
theorem r_0_cross_130 : RA M_X0_cross 130 0 131 := Or.inl ⟨0, by decide +kernel, rfl, rfl⟩
theorem r_0_cross_131 : RG M_X0_cross 131 0 1 134 := ⟨16, _, by decide +kernel, rfl, by decide, wd_f0_16, rfl, rfl⟩
theorem r_0_cross_134 : RC M_X0_cross 134 1 135 := ⟨⟨by decide, by decide⟩, Or.inl ⟨by decide +kernel, rfl⟩⟩
theorem r_0_cross_135 : RC M_X0_cross 135 0 136 := ⟨⟨by decide, by decide⟩, Or.inl ⟨by decide +kernel, rfl⟩⟩
theorem r_0_cross_136 : RW M_X0_cross 136 .iastore 137 1 := ⟨by decide +kernel, rfl⟩
theorem r_0_cross_137 : RA M_X0_cross 137 0 138 := Or.inl ⟨0, by decide +kernel, rfl, rfl⟩
theorem r_0_cross_138 : RG M_X0_cross 138 0 7 141 := ⟨48, _, by decide +kernel, rfl, by decide, wd_f0_48, rfl, rfl⟩
theorem r_0_cross_141 : RW M_X0_cross 141 .ireturn 142 1 := ⟨by decide +kernel, rfl⟩
theorem r_0_cross_105 : RC M_X0_cross 105 (-4) 107 := ⟨⟨by decide, by decide⟩, Or.inr (Or.inl ⟨by decide +kernel, by decide, rfl⟩)⟩
theorem r_0_cross_107 : RW M_X0_cross 107 .ireturn 108 1 := ⟨by decide +kernel, rfl⟩
theorem r_0_cross_53 : RA M_X0_cross 53 0 54 := Or.inl ⟨0, by decide +kernel, rfl, rfl⟩
theorem r_0_cross_54 : RG M_X0_cross 54 0 4 57 := ⟨26, _, by decide +kernel, rfl, by decide, wd_f0_26, rfl, rfl⟩
theorem r_0_cross_57 : RC M_X0_cross 57 1 58 := ⟨⟨by decide, by decide⟩, Or.inl ⟨by decide +kernel, rfl⟩⟩
theorem r_0_cross_58 : RW M_X0_cross 58 .iaload 59 1 := ⟨by decide +kernel, rfl⟩
theorem r_0_cross_59 : RS M_X0_cross 59 3 60 := ⟨by decide, Or.inl ⟨3, by decide +kernel, rfl, rfl⟩⟩
theorem r_0_cross_60 : RL M_X0_cross 60 3 61 := Or.inl ⟨3, by decide +kernel, rfl, rfl⟩
theorem r_0_cross_61 : RB M_X0_cross 61 (.ifCond .lt) 88 64 := ⟨27, by decide +kernel, rfl, rfl⟩
theorem r_0_cross_88 : RI M_X0_cross 88 2 (-1) 91 := ⟨by decide, by decide +kernel, rfl⟩
theorem r_0_cross_91 : RB M_X0_cross 91 .goto 49 94 := ⟨(-42), by decide +kernel, rfl, rfl⟩
theorem r_0_cross_64 : RA M_X0_cross 64 0 65 := Or.inl ⟨0, by decide +kernel, rfl, rfl⟩
theorem r_0_cross_65 : RG M_X0_cross 65 0 5 68 := ⟨29, _, by decide +kernel, rfl, by decide, wd_f0_29, rfl, rfl⟩
theorem r_0_cross_68 : RL M_X0_cross 68 2 69 := Or.inl ⟨2, by decide +kernel, rfl, rfl⟩
theorem r_0_cross_69 : RC M_X0_cross 69 91 71 := ⟨⟨by decide, by decide⟩, Or.inr (Or.inl ⟨by decide +kernel, by decide, rfl⟩)⟩
theorem r_0_cross_71 : RW M_X0_cross 71 .imul 72 1 := ⟨by decide +kernel, rfl⟩
theorem r_0_cross_72 : RL M_X0_cross 72 3 73 := Or.inl ⟨3, by decide +kernel, rfl, rfl⟩
theorem r_0_cross_73 : RW M_X0_cross 73 .iadd 74 1 := ⟨by decide +kernel, rfl⟩
theorem r_0_cross_74 : RA M_X0_cross 74 0 75 := Or.inl ⟨0, by decide +kernel, rfl, rfl⟩
theorem r_0_cross_75 : RL M_X0_cross 75 2 76 := Or.inl ⟨2, by decide +kernel, rfl, rfl⟩
theorem r_0_cross_76 : RL M_X0_cross 76 3 77 := Or.inl ⟨3, by decide +kernel, rfl, rfl⟩
theorem r_0_cross_77 : RL M_X0_cross 77 1 78 := Or.inl ⟨1, by decide +kernel, rfl, rfl⟩
theorem r_0_cross_78 : RKv M_X0_cross M_X0_leastFrom 78 3 0 81 := ⟨43, by decide +kernel, wd_m0_43, ok_M_X0_leastFrom, wd_s0_leastFrom, rfl⟩
theorem r_0_cross_81 : RW M_X0_cross 81 .iastore 82 1 := ⟨by decide +kernel, rfl⟩
theorem r_0_cross_82 : RI M_X0_cross 82 3 (-1) 85 := ⟨by decide, by decide +kernel, rfl⟩
theorem r_0_cross_85 : RB M_X0_cross 85 .goto 60 88 := ⟨(-25), by decide +kernel, rfl, rfl⟩
theorem r_0_cross_9 : RC M_X0_cross 9 (-1) 10 := ⟨⟨by decide, by decide⟩, Or.inl ⟨by decide +kernel, rfl⟩⟩
theorem r_0_cross_10 : RW M_X0_cross 10 .ireturn 11 1 := ⟨by decide +kernel, rfl⟩
theorem r_11_bridge_0 : RA M_X11_bridge 0 0 1 := Or.inl ⟨0, by decide +kernel, rfl, rfl⟩
theorem r_11_bridge_1 : RG M_X11_bridge 1 11 7 4 := ⟨71, _, by decide +kernel, rfl, by decide, wd_f11_71, rfl, rfl⟩
theorem r_11_bridge_4 : RL M_X11_bridge 4 1 5 := Or.inl ⟨1, by decide +kernel, rfl, rfl⟩
theorem r_11_bridge_5 : RKv M_X11_bridge M_X0_cross 5 1 0 8 := ⟨204, by decide +kernel, wd_m11_204, ok_M_X0_cross, wd_s0_cross, rfl⟩
theorem r_11_bridge_8 : RW M_X11_bridge 8 .ireturn 9 1 := ⟨by decide +kernel, rfl⟩
set_option maxRecDepth 10000 in
theorem sp_X0_cross {l : Launch} {w : Wo} {d : Nat} {G : PH} {P : Option PV → PH → Prop} {h : Int} (hz0 : 0 ≤ (gA G 22 0 (0)) ∧ (gA G 22 0 (0)) ≤ 10) (hz1 : 0 ≤ (gA G 22 0 (1)) ∧ (gA G 22 0 (1)) ≤ 10) (hm0 : ∀ i, 0 ≤ i → i < (gA G 22 0 (0)) → 1 ≤ (gA G 21 0 (i)) ∧ (gA G 21 0 (i)) ≤ 9) (hm1 : ∀ i, 0 ≤ i → i < (gA G 22 0 (1)) → 1 ≤ (gA G 21 (1) (i)) ∧ (gA G 21 (1) (i)) ≤ 9) (h1 : ¬ (1 ≤ h ∧ h ≤ 3) → P (some (vI (-1))) G) (h2 : (1 ≤ h ∧ h ≤ 3) → ((gA G 22 0 (0)) = 0 ∨ (gA G 22 0 (1)) = 0) → P (some (vI (-3))) G) (h3 : (1 ≤ h ∧ h ≤ 3) → ((gA G 22 0 (0)) ≠ 0 ∧ (gA G 22 0 (1)) ≠ 0) → ∀ (T0 T1 : Int) (f0 g0 f1 g1 tb : Int → Int), RWy (gA G 22 0 (0)) (gA G 21 0) T0 → RWy (gA G 22 0 (1)) (gA G 21 (1)) T1 → BEL (gA G 21 0) (gA G 21 (1)) T0 T1 h (tvF tb) → 1000000000 ≤ tb 0 → P (some (vI (-4))) (uA (sA (uA (uA (sA (uA (uA G 24 0 (f0)) 26 0 (g0)) 27 0 (0) (T0)) 24 (1) (f1)) 26 (1) (g1)) 27 0 (1) (T1)) 28 0 (tb))) (h4 : (1 ≤ h ∧ h ≤ 3) → ((gA G 22 0 (0)) ≠ 0 ∧ (gA G 22 0 (1)) ≠ 0) → ∀ (T0 T1 : Int) (f0 g0 f1 g1 tb : Int → Int), RWy (gA G 22 0 (0)) (gA G 21 0) T0 → RWy (gA G 22 0 (1)) (gA G 21 (1)) T1 → BEL (gA G 21 0) (gA G 21 (1)) T0 T1 h (tvF tb) → tb 0 < 1000000000 → ∀ st : Int → Int, (∀ m, 0 ≤ m → m < tb 0 → st m = bgF (gA G 21 0) (gA G 21 (1)) T0 T1 h (tvF tb) (ptI (gA G 21 0) (gA G 21 (1)) T0 T1 h (tvF tb) m).1 (ptI (gA G 21 0) (gA G 21 (1)) T0 T1 h (tvF tb) m).2) → P (some (vI (tb 0))) (sA (sA (uA (sF (uA (sA (uA (uA (sA (uA (uA G 24 0 (f0)) 26 0 (g0)) 27 0 (0) (T0)) 24 (1) (f1)) 26 (1) (g1)) 27 0 (1) (T1)) 28 0 (tb)) 0 0 7 (tb 0)) 29 0 (st)) 22 0 (0) (0)) 22 0 (1) (0))) : PW l w M_X0_cross (d + 5) 0 [some (vR 0 (0)), some (vI (h)), none, none] [] G P := by
  refine pw_iload r_0_cross_0 rfl ?_
  refine pw_const r_0_cross_1 ?_
  refine pw_const r_0_cross_2 ?_
  refine pw_callS (av := [vI (h), vI (1), vI (3)]) (st := []) (ls0 := [some (vI (h)), some (vI (1)), some (vI (3))]) r_0_cross_3 rfl rfl rfl (Nat.le_refl _) ?_
  refine sp_X11_within  ?_
  refine pw_if_neB r_0_cross_6 (fun h06 => ?_) (fun h06 => ?_)
  · skip
    have c1 : 1 ≤ h ∧ h ≤ 3 := by omega
    refine pw_aload r_0_cross_11 rfl ?_
    refine pw_getR r_0_cross_12 fs_0_1 (by decide) ?_
    refine pw_const r_0_cross_15 ?_
    refine pw_iald r_0_cross_16 sh22 (by omega) (by omega) ?_
    refine pw_if_eq r_0_cross_17 (fun h17 => ?_) (fun h17 => ?_)
    · skip
      refine pw_const r_0_cross_29 ?_
      refine pw_iret r_0_cross_31 rfl (Nat.le_refl _) ⟨rfl, ?_⟩
      exact h2 (by omega) (by omega)
    · skip
      refine pw_aload r_0_cross_20 rfl ?_
      refine pw_getR r_0_cross_21 fs_0_1 (by decide) ?_
      refine pw_const r_0_cross_24 ?_
      refine pw_iald r_0_cross_25 sh22 (by omega) (by omega) ?_
      refine pw_if_ne r_0_cross_26 (fun h26 => ?_) (fun h26 => ?_)
      · skip
        have c2 : (gA G 22 0 (0)) ≠ 0 ∧ (gA G 22 0 (1)) ≠ 0 := ⟨by omega, by omega⟩
        refine pw_aload r_0_cross_32 rfl ?_
        refine pw_const r_0_cross_33 ?_
        refine pw_callV (av := [vI (0)]) (st := []) (ls0 := [some (vR 0 (0)), some (vI (0)), none, none, none, none]) r_0_cross_34 rfl rfl rfl (Nat.le_refl _) ?_
        refine sp_X0_layOut (by exact Or.inl rfl) (by exact hz0) (by exact hm0) ?_
        intro T0 f0 g0 hRA hLA
        refine pw_aload r_0_cross_37 rfl ?_
        refine pw_const r_0_cross_38 ?_
        refine pw_callV (av := [vI (1)]) (st := []) (ls0 := [some (vR 0 (0)), some (vI (1)), none, none, none, none]) r_0_cross_39 rfl rfl rfl (Nat.le_refl _) ?_
        refine sp_X0_layOut (by exact Or.inr rfl) (by exact hz1) (by exact hm1) ?_
        intro T1 f1 g1 hRB hLB
        have hTT : T0 ≤ 90 ∧ T1 ≤ 90 := ⟨hRA.1.2, hRB.1.2⟩
        have hTZ : (0 ≤ T0 ∧ T0 ≤ 90) ∧ 0 ≤ T1 ∧ T1 ≤ 90 := ⟨hRA.1, hRB.1⟩
        refine pw_aload r_0_cross_42 rfl ?_
        refine pw_getR r_0_cross_43 fs_0_4 (by decide) ?_
        refine pw_const r_0_cross_46 ?_
        refine pw_ialdv (v := T0) r_0_cross_47 sh27 (by omega) (by omega) (by first | rfl | simp [gF_sF, gF_sA, gF_uA, gF_sD, gA_sF, gA_sA, gA_uA, gA_sD, gD_sF, gD_sA, gD_uA, gD_sD]) ?_
        refine pw_istore (ls' := [some (vR 0 (0)), some (vI (h)), some (vI (T0)), none]) r_0_cross_48 rfl rfl ?_
        have L49 : ∀ (nF : Nat) (a : Int) (tb : Int → Int), (ha : -1 ≤ a ∧ a ≤ T0) → (hbl : belP (gA G 21 0) (gA G 21 (1)) T0 T1 h (tvF tb) a T1) → (a + 1).toNat < nF → PW l w M_X0_cross (d + 5) 49 [some (vR 0 (0)), some (vI (h)), some (vI (a)), none] [] (uA (sA (uA (uA (sA (uA (uA G 24 (0) (f0)) 26 (0) (g0)) 27 (0) (0) (T0)) 24 (1) (f1)) 26 (1) (g1)) 27 (0) (1) (T1)) 28 (0) (tb)) P := by
          intro nF
          induction nF with
          | zero => intro _ _ _ _ hM; exact absurd hM (Nat.not_lt_zero _)
          | succ nF ih49 =>
            intro a tb ha hbl hM49
            refine pw_iload r_0_cross_49 rfl ?_
            refine pw_if_lt r_0_cross_50 (fun h50 => ?_) (fun h50 => ?_)
            · skip
              have ea : a = -1 := by omega
              rw [ea] at hbl
              have hBE := bp_all hbl
              have hb0 := bel_0 hBE hTZ
              have e00 : tvF tb 0 0 = tb 0 := rfl
              refine pw_aload r_0_cross_94 rfl ?_
              refine pw_getR r_0_cross_95 fs_0_5 (by decide) ?_
              refine pw_const r_0_cross_98 ?_
              refine pw_ialdv (v := (tb) (0)) r_0_cross_99 sh28 (by omega) (by omega) (by first | rfl | simp [gF_sF, gF_sA, gF_uA, gF_sD, gA_sF, gA_sA, gA_uA, gA_sD, gD_sF, gD_sA, gD_uA, gD_sD]) ?_
              refine pw_const r_0_cross_100 ?_
              refine pw_icmp_lt r_0_cross_102 (fun h102 => ?_) (fun h102 => ?_)
              · skip
                refine pw_aload r_0_cross_108 rfl ?_
                refine pw_aload r_0_cross_109 rfl ?_
                refine pw_getR r_0_cross_110 fs_0_5 (by decide) ?_
                refine pw_const r_0_cross_113 ?_
                refine pw_ialdv (v := (tb) (0)) r_0_cross_114 sh28 (by omega) (by omega) (by first | rfl | simp [gF_sF, gF_sA, gF_uA, gF_sD, gA_sF, gA_sA, gA_uA, gA_sD, gD_sF, gD_sA, gD_uA, gD_sD]) ?_
                refine pw_putI r_0_cross_115 (by decide +kernel) fs_0_7 (by decide) ?_
                refine pw_aload r_0_cross_118 rfl ?_
                refine pw_iload r_0_cross_119 rfl ?_
                refine pw_callV (av := [vI (h)]) (st := []) (ls0 := [some (vR 0 (0)), some (vI (h)), none, none, none, none, none, none]) r_0_cross_120 rfl rfl rfl (Nat.le_refl _) ?_
                refine sp_X0_keepStarts (wa := (gA G 21 0)) (wb := (gA G 21 (1))) (V := (tvF tb)) (by exact hTZ) (by exact ov_of hRA hRB hLA hLB hz0 hz1) (by exact c1) (by exact hLA) (by exact hLB) (by exact hBE) (by exact fun x y _ _ _ _ => rfl) (by exact ⟨rfl, by omega⟩) ?_
                intro st hst
                refine pw_aload r_0_cross_123 rfl ?_
                refine pw_getR r_0_cross_124 fs_0_1 (by decide) ?_
                refine pw_const r_0_cross_127 ?_
                refine pw_const r_0_cross_128 ?_
                refine pw_iast r_0_cross_129 sh22 (by omega) (by omega) ?_
                refine pw_aload r_0_cross_130 rfl ?_
                refine pw_getR r_0_cross_131 fs_0_1 (by decide) ?_
                refine pw_const r_0_cross_134 ?_
                refine pw_const r_0_cross_135 ?_
                refine pw_iast r_0_cross_136 sh22 (by omega) (by omega) ?_
                refine pw_aload r_0_cross_137 rfl ?_
                refine pw_getIv (v := (tb) (0)) r_0_cross_138 fs_0_7 (by decide) (by first | rfl | simp [gF_sF, gF_sA, gF_uA, gF_sD, gA_sF, gA_sA, gA_uA, gA_sD, gD_sF, gD_sA, gD_uA, gD_sD]) ?_
                refine pw_iret r_0_cross_141 rfl (Nat.le_refl _) ⟨rfl, ?_⟩
                exact h4 c1 c2 T0 T1 f0 g0 f1 g1 tb hRA hRB hBE (by omega) st hst
              · skip
                refine pw_const r_0_cross_105 ?_
                refine pw_iret r_0_cross_107 rfl (Nat.le_refl _) ⟨rfl, ?_⟩
                exact h3 c1 c2 T0 T1 f0 g0 f1 g1 tb hRA hRB hBE (by omega)
            · skip
              refine pw_aload r_0_cross_53 rfl ?_
              refine pw_getR r_0_cross_54 fs_0_4 (by decide) ?_
              refine pw_const r_0_cross_57 ?_
              refine pw_ialdv (v := T1) r_0_cross_58 sh27 (by omega) (by omega) (by first | rfl | simp [gF_sF, gF_sA, gF_uA, gF_sD, gA_sF, gA_sA, gA_uA, gA_sD, gD_sF, gD_sA, gD_uA, gD_sD]) ?_
              refine pw_istore (ls' := [some (vR 0 (0)), some (vI (h)), some (vI (a)), some (vI (T1))]) r_0_cross_59 rfl rfl ?_
              have L60 : ∀ (nF : Nat) (b : Int) (tb2 : Int → Int), (hb : -1 ≤ b ∧ b ≤ T1) → (hbl2 : belP (gA G 21 0) (gA G 21 (1)) T0 T1 h (tvF tb2) a b) → (b + 1).toNat < nF → PW l w M_X0_cross (d + 5) 60 [some (vR 0 (0)), some (vI (h)), some (vI (a)), some (vI (b))] [] (uA (sA (uA (uA (sA (uA (uA G 24 (0) (f0)) 26 (0) (g0)) 27 (0) (0) (T0)) 24 (1) (f1)) 26 (1) (g1)) 27 (0) (1) (T1)) 28 (0) (tb2)) P := by
                intro nF
                induction nF with
                | zero => intro _ _ _ _ hM; exact absurd hM (Nat.not_lt_zero _)
                | succ nF ih60 =>
                  intro b tb2 hb hbl2 hM60
                  refine pw_iload r_0_cross_60 rfl ?_
                  refine pw_if_lt r_0_cross_61 (fun h61 => ?_) (fun h61 => ?_)
                  · skip
                    refine pw_iinc (b := 0) (ls' := [some (vR 0 (0)), some (vI (h)), some (vI ((a + (-1)))), some (vI (b))]) r_0_cross_88 rfl rfl (by omega) rfl ?_
                    refine pw_goto r_0_cross_91 ?_
                    refine pw_weakL (ls' := [some (vR 0 (0)), some (vI (h)), some (vI ((a + (-1)))), none]) (⟨rfl, ⟨rfl, ⟨rfl, trivial⟩⟩⟩) ?_
                    exact ih49 ((a + (-1))) (tb2) (by omega) (bp_row2 hbl2 (by omega)) (by omega)
                  · skip
                    have hra : 0 ≤ a ∧ a ≤ T0 := ⟨by omega, ha.2⟩
                    have hrb : 0 ≤ b ∧ b ≤ T1 := ⟨by omega, hb.2⟩
                    have hi3 := vB_in (sa := 1) (sb := 1) hbl2 hra.1 hrb.1 (by decide) (by decide) hTT
                    have hi1 := vB_in (sa := 1) (sb := 0) hbl2 hra.1 hrb.1 (by decide) (by decide) hTT
                    have hi2 := vB_in (sa := 0) (sb := 1) hbl2 hra.1 hrb.1 (by decide) (by decide) hTT
                    refine pw_aload r_0_cross_64 rfl ?_
                    refine pw_getR r_0_cross_65 fs_0_5 (by decide) ?_
                    refine pw_iload r_0_cross_68 rfl ?_
                    refine pw_const r_0_cross_69 ?_
                    refine pw_imul r_0_cross_71 (by omega) ?_
                    refine pw_iload r_0_cross_72 rfl ?_
                    refine pw_iadd r_0_cross_73 (by omega) ?_
                    refine pw_aload r_0_cross_74 rfl ?_
                    refine pw_iload r_0_cross_75 rfl ?_
                    refine pw_iload r_0_cross_76 rfl ?_
                    refine pw_iload r_0_cross_77 rfl ?_
                    refine pw_callV (av := [vI (a), vI (b), vI (h)]) (st := [vI (((a * 91) + b)), vR 28 (0)]) (ls0 := [some (vR 0 (0)), some (vI (a)), some (vI (b)), some (vI (h)), none, none]) r_0_cross_78 rfl rfl rfl (Nat.le_refl _) ?_
                    refine sp_X0_leastFrom (v3 := (vB (gA G 21 0) (gA G 21 (1)) T0 T1 h (tvF tb2) a b 1 1)) (v1 := (vB (gA G 21 0) (gA G 21 (1)) T0 T1 h (tvF tb2) a b 1 0)) (v2 := (vB (gA G 21 0) (gA G 21 (1)) T0 T1 h (tvF tb2) a b 0 1)) (by exact hTZ) (by exact ov_of hRA hRB hLA hLB hz0 hz1) (by exact ⟨hra, hrb⟩) (by exact c1) (by exact vw_of (V := tvF tb2) (tb := tb2) (o0 := f0) (o1 := f1) (r0 := g0) (r1 := g1) hLA hLB hra hrb (by decide) (fun z => rfl)) (by exact vw_of (V := tvF tb2) (tb := tb2) (o0 := f0) (o1 := f1) (r0 := g0) (r1 := g1) hLA hLB hra hrb (by decide) (fun z => rfl)) (by exact vw_of (V := tvF tb2) (tb := tb2) (o0 := f0) (o1 := f1) (r0 := g0) (r1 := g1) hLA hLB hra hrb (by decide) (fun z => rfl)) (by exact ⟨hi3, hi1, hi2⟩) ?_ ?_
                    · skip
                      intro q1
                      refine pw_iast r_0_cross_81 sh28 (by omega) (by omega) ?_
                      refine pw_iinc (b := 0) (ls' := [some (vR 0 (0)), some (vI (h)), some (vI (a)), some (vI ((b + (-1))))]) r_0_cross_82 rfl rfl (by omega) rfl ?_
                      refine pw_goto r_0_cross_85 ?_
                      refine pw_eqG (G' := uA (sA (uA (uA (sA (uA (uA G 24 (0) (f0)) 26 (0) (g0)) 27 (0) (0) (T0)) 24 (1) (f1)) 26 (1) (g1)) 27 (0) (1) (T1)) 28 (0) ((upA tb2 (a * 91 + b) (0)))) (by rw [sA_uA]) ?_
                      exact ih60 ((b + (-1))) ((upA tb2 (a * 91 + b) (0))) (by omega) (bel_put hbl2 hra hrb hTT (Or.inl ⟨q1.1, q1.2, rfl⟩)) (by omega)
                    · skip
                      intro q1
                      refine pw_iast r_0_cross_81 sh28 (by omega) (by omega) ?_
                      refine pw_iinc (b := 0) (ls' := [some (vR 0 (0)), some (vI (h)), some (vI (a)), some (vI ((b + (-1))))]) r_0_cross_82 rfl rfl (by omega) rfl ?_
                      refine pw_goto r_0_cross_85 ?_
                      refine pw_eqG (G' := uA (sA (uA (uA (sA (uA (uA G 24 (0) (f0)) 26 (0) (g0)) 27 (0) (0) (T0)) 24 (1) (f1)) 26 (1) (g1)) 27 (0) (1) (T1)) 28 (0) ((upA tb2 (a * 91 + b) (min 1000000000 (1 + min (vB (gA G 21 0) (gA G 21 (1)) T0 T1 h (tvF tb2) a b 1 1) (min (vB (gA G 21 0) (gA G 21 (1)) T0 T1 h (tvF tb2) a b 1 0) (vB (gA G 21 0) (gA G 21 (1)) T0 T1 h (tvF tb2) a b 0 1))))))) (by rw [sA_uA]) ?_
                      exact ih60 ((b + (-1))) ((upA tb2 (a * 91 + b) (min 1000000000 (1 + min (vB (gA G 21 0) (gA G 21 (1)) T0 T1 h (tvF tb2) a b 1 1) (min (vB (gA G 21 0) (gA G 21 (1)) T0 T1 h (tvF tb2) a b 1 0) (vB (gA G 21 0) (gA G 21 (1)) T0 T1 h (tvF tb2) a b 0 1)))))) (by omega) (bel_put hbl2 hra hrb hTT (Or.inr ⟨q1, rfl⟩)) (by omega)
              exact L60 _ (T1) (tb) (by omega) (hbl) (Nat.lt_succ_self _)
        refine pw_eqG (G' := uA (sA (uA (uA (sA (uA (uA G 24 (0) (f0)) 26 (0) (g0)) 27 (0) (0) (T0)) 24 (1) (f1)) 26 (1) (g1)) 27 (0) (1) (T1)) 28 (0) ((gA G 28 0))) ((uA_own _ 28 0).symm) ?_
        exact L49 _ (T0) ((gA G 28 0)) (by omega) (bp_0) (Nat.lt_succ_self _)
      · skip
        refine pw_const r_0_cross_29 ?_
        refine pw_iret r_0_cross_31 rfl (Nat.le_refl _) ⟨rfl, ?_⟩
        exact h2 (by omega) (by omega)
  · skip
    refine pw_const r_0_cross_9 ?_
    refine pw_iret r_0_cross_10 rfl (Nat.le_refl _) ⟨rfl, ?_⟩
    exact h1 (by omega)
set_option maxRecDepth 10000 in
theorem sp_X11_bridge {l : Launch} {w : Wo} {d : Nat} {G : PH} {P : Option PV → PH → Prop} {h : Int} (hz0 : 0 ≤ (gA G 22 0 (0)) ∧ (gA G 22 0 (0)) ≤ 10) (hz1 : 0 ≤ (gA G 22 0 (1)) ∧ (gA G 22 0 (1)) ≤ 10) (hm0 : ∀ i, 0 ≤ i → i < (gA G 22 0 (0)) → 1 ≤ (gA G 21 0 (i)) ∧ (gA G 21 0 (i)) ≤ 9) (hm1 : ∀ i, 0 ≤ i → i < (gA G 22 0 (1)) → 1 ≤ (gA G 21 (1) (i)) ∧ (gA G 21 (1) (i)) ≤ 9) (h1 : ¬ (1 ≤ h ∧ h ≤ 3) → P (some (vI (-1))) G) (h2 : (1 ≤ h ∧ h ≤ 3) → ((gA G 22 0 (0)) = 0 ∨ (gA G 22 0 (1)) = 0) → P (some (vI (-3))) G) (h3 : (1 ≤ h ∧ h ≤ 3) → ((gA G 22 0 (0)) ≠ 0 ∧ (gA G 22 0 (1)) ≠ 0) → ∀ (T0 T1 : Int) (f0 g0 f1 g1 tb : Int → Int), RWy (gA G 22 0 (0)) (gA G 21 0) T0 → RWy (gA G 22 0 (1)) (gA G 21 (1)) T1 → BEL (gA G 21 0) (gA G 21 (1)) T0 T1 h (tvF tb) → 1000000000 ≤ tb 0 → P (some (vI (-4))) (uA (sA (uA (uA (sA (uA (uA G 24 0 (f0)) 26 0 (g0)) 27 0 0 (T0)) 24 (1) (f1)) 26 (1) (g1)) 27 0 (1) (T1)) 28 0 (tb))) (h4 : (1 ≤ h ∧ h ≤ 3) → ((gA G 22 0 (0)) ≠ 0 ∧ (gA G 22 0 (1)) ≠ 0) → ∀ (T0 T1 : Int) (f0 g0 f1 g1 tb : Int → Int), RWy (gA G 22 0 (0)) (gA G 21 0) T0 → RWy (gA G 22 0 (1)) (gA G 21 (1)) T1 → BEL (gA G 21 0) (gA G 21 (1)) T0 T1 h (tvF tb) → tb 0 < 1000000000 → ∀ st : Int → Int, (∀ m, 0 ≤ m → m < tb 0 → st m = bgF (gA G 21 0) (gA G 21 (1)) T0 T1 h (tvF tb) (ptI (gA G 21 0) (gA G 21 (1)) T0 T1 h (tvF tb) m).1 (ptI (gA G 21 0) (gA G 21 (1)) T0 T1 h (tvF tb) m).2) → P (some (vI (tb 0))) (sA (sA (uA (sF (uA (sA (uA (uA (sA (uA (uA G 24 0 (f0)) 26 0 (g0)) 27 0 0 (T0)) 24 (1) (f1)) 26 (1) (g1)) 27 0 (1) (T1)) 28 0 (tb)) 0 0 7 (tb 0)) 29 0 (st)) 22 0 0 (0)) 22 0 (1) (0))) : PW l w M_X11_bridge (d + 6) 0 [some (vR 11 (0)), some (vI (h))] [] G P := by
  refine pw_aload r_11_bridge_0 rfl ?_
  refine pw_getR r_11_bridge_1 fs_11_7 (by decide) ?_
  refine pw_iload r_11_bridge_4 rfl ?_
  refine pw_callV (av := [vI (h)]) (st := []) (ls0 := [some (vR 0 (0)), some (vI (h)), none, none]) r_11_bridge_5 rfl rfl rfl (Nat.le_refl _) ?_
  refine sp_X0_cross (by first | assumption | exact hz0 | omega) (by first | assumption | exact hz1 | omega) (by first | assumption | exact hm0 | omega) (by first | assumption | exact hm1 | omega) ?_ ?_ ?_ ?_
  · skip
    intro q1
    refine pw_iret r_11_bridge_8 rfl (Nat.le_refl _) ⟨rfl, ?_⟩
    exact h1 q1
  · skip
    intro q1 q2
    refine pw_iret r_11_bridge_8 rfl (Nat.le_refl _) ⟨rfl, ?_⟩
    exact h2 q1 q2
  · skip
    intro q1 q2 T0 T1 f0 g0 f1 g1 tb q3 q4 q5 q6
    refine pw_iret r_11_bridge_8 rfl (Nat.le_refl _) ⟨rfl, ?_⟩
    exact h3 q1 q2 T0 T1 f0 g0 f1 g1 tb q3 q4 q5 q6
  · skip
    intro q1 q2 T0 T1 f0 g0 f1 g1 tb q3 q4 q5 q6 st q7
    refine pw_iret r_11_bridge_8 rfl (Nat.le_refl _) ⟨rfl, ?_⟩
    exact h4 q1 q2 T0 T1 f0 g0 f1 g1 tb q3 q4 q5 q6 st q7
