theorem bp_row2 {wa wb : Int → Int} {TA TB h a b : Int} {V : Int → Int → Int} (hP : belP wa wb TA TB h V a b) (e : b = -1) : belP wa wb TA TB h V (a + (-1)) TB := by rw [e] at hP; exact bp_row hP
theorem ov_of {wa wb o0 o1 r0 r1 : Int → Int} {n0 n1 TA TB : Int} {t : Int → Int} {o : Int → Int → Int} (hA : RWy n0 wa TA) (hB : RWy n1 wb TB) (lA : LOF wa TA o0 r0) (lB : LOF wb TB o1 r1) (z0 : 0 ≤ n0 ∧ n0 ≤ 10) (z1 : 0 ≤ n1 ∧ n1 ≤ 10) (ht0 : t 0 = TA := by rfl) (ht1 : t 1 = TB := by rfl) (ho0 : o 0 = o0 := by rfl) (ho1 : o 1 = o1 := by rfl) : ∀ r p, 0 ≤ r → r < 2 → 0 ≤ p → p ≤ t r → 0 ≤ o r p ∧ o r p ≤ 10 := by
  have key : ∀ {n T p : Int} {w f g : Int → Int}, RWy n w T → LOF w T f g → n ≤ 10 → 0 ≤ p → p ≤ T → 0 ≤ f p ∧ f p ≤ 10 := fun {n T p w f g} hR hL hn p0 p1 => by
    have a := hL p p0 p1
    have b := hR.2.2.2 p p0 p1
    have c := ps_or (x := plX w p) b.2.1
    by_cases e0 : plK w p = 0
    · have s1 := pl_sum hR p.toNat (by omega)
      rw [Int.toNat_of_nonneg p0, e0] at s1
      have s0 : smW w 0 = 0 := rfl
      omega
    · omega
  intro r p a b c e
  have er : r = 0 ∨ r = 1 := by omega
  rcases er with z | z
  · rw [z] at e ⊢
    rw [ht0] at e
    rw [ho0]
    exact key hA lA z0.2 c e
  · rw [z] at e ⊢
    rw [ht1] at e
    rw [ho1]
    exact key hB lB z1.2 c e

theorem wd_m0_42 : Cond.methodLink "NameRolls$Bridge" 42 M_X0_layOut.1 ∈ UW := UW6_at 97 (by decide +kernel) rfl
theorem wd_s0_layOut : Cond.selects M_X0_layOut.1.cls M_X0_layOut.1 M_X0_layOut.1 ∈ UW := UWp_at 46 (by decide +kernel) rfl
theorem wd_m0_55 : Cond.methodLink "NameRolls$Bridge" 55 M_X0_keepStarts.1 ∈ UW := UW6_at 111 (by decide +kernel) rfl
theorem wd_s0_keepStarts : Cond.selects M_X0_keepStarts.1.cls M_X0_keepStarts.1 M_X0_keepStarts.1 ∈ UW := UWp_at 49 (by decide +kernel) rfl
theorem wd_m0_46 : Cond.methodLink "NameRolls$Bridge" 46 M_X0_decide.1 ∈ UW := UW6_at 101 (by decide +kernel) rfl
theorem wd_s0_decide : Cond.selects M_X0_decide.1.cls M_X0_decide.1 M_X0_decide.1 ∈ UW := UWp_at 47 (by decide +kernel) rfl
theorem wd_m11_204 : Cond.methodLink "NameRolls" 204 M_X0_cross.1 ∈ UW := UW6_at 93 (by decide +kernel) rfl
theorem wd_s0_cross : Cond.selects M_X0_cross.1.cls M_X0_cross.1 M_X0_cross.1 ∈ UW := UW6_at 95 (by decide +kernel) rfl
theorem r_0_cross_0 : RL M_X0_cross 0 1 1 := Or.inl ⟨1, by decide +kernel, rfl, rfl⟩
theorem r_0_cross_1 : RC M_X0_cross 1 1 2 := ⟨⟨by decide, by decide⟩, Or.inl ⟨by decide +kernel, rfl⟩⟩
theorem r_0_cross_2 : RC M_X0_cross 2 3 3 := ⟨⟨by decide, by decide⟩, Or.inl ⟨by decide +kernel, rfl⟩⟩
theorem r_0_cross_3 : RKs M_X0_cross M_X11_within 3 3 6 := ⟨38, by decide +kernel, Or.inr (by decide +kernel), ok_M_X11_within, rfl⟩
theorem r_0_cross_6 : RB M_X0_cross 6 (.ifCond .ne) 11 9 := ⟨5, by decide +kernel, rfl, rfl⟩
theorem r_0_cross_11 : RA M_X0_cross 11 0 12 := Or.inl ⟨0, by decide +kernel, rfl, rfl⟩
theorem r_0_cross_12 : RG M_X0_cross 12 0 1 15 := ⟨16, _, by decide +kernel, rfl, by decide, wd_f0_16, rfl, rfl⟩
theorem r_0_cross_15 : RC M_X0_cross 15 0 16 := ⟨⟨by decide, by decide⟩, Or.inl ⟨by decide +kernel, rfl⟩⟩
theorem r_0_cross_16 : RW M_X0_cross 16 .iaload 17 1 := ⟨by decide +kernel, rfl⟩
theorem r_0_cross_17 : RB M_X0_cross 17 (.ifCond .eq) 29 20 := ⟨12, by decide +kernel, rfl, rfl⟩
theorem r_0_cross_29 : RC M_X0_cross 29 (-3) 31 := ⟨⟨by decide, by decide⟩, Or.inr (Or.inl ⟨by decide +kernel, by decide, rfl⟩)⟩
theorem r_0_cross_31 : RW M_X0_cross 31 .ireturn 32 1 := ⟨by decide +kernel, rfl⟩
theorem r_0_cross_20 : RA M_X0_cross 20 0 21 := Or.inl ⟨0, by decide +kernel, rfl, rfl⟩
theorem r_0_cross_21 : RG M_X0_cross 21 0 1 24 := ⟨16, _, by decide +kernel, rfl, by decide, wd_f0_16, rfl, rfl⟩
theorem r_0_cross_24 : RC M_X0_cross 24 1 25 := ⟨⟨by decide, by decide⟩, Or.inl ⟨by decide +kernel, rfl⟩⟩
theorem r_0_cross_25 : RW M_X0_cross 25 .iaload 26 1 := ⟨by decide +kernel, rfl⟩
theorem r_0_cross_26 : RB M_X0_cross 26 (.ifCond .ne) 32 29 := ⟨6, by decide +kernel, rfl, rfl⟩
theorem r_0_cross_32 : RA M_X0_cross 32 0 33 := Or.inl ⟨0, by decide +kernel, rfl, rfl⟩
theorem r_0_cross_33 : RC M_X0_cross 33 0 34 := ⟨⟨by decide, by decide⟩, Or.inl ⟨by decide +kernel, rfl⟩⟩
theorem r_0_cross_34 : RKv M_X0_cross M_X0_layOut 34 1 0 37 := ⟨42, by decide +kernel, wd_m0_42, ok_M_X0_layOut, wd_s0_layOut, rfl⟩
theorem r_0_cross_37 : RA M_X0_cross 37 0 38 := Or.inl ⟨0, by decide +kernel, rfl, rfl⟩
theorem r_0_cross_38 : RC M_X0_cross 38 1 39 := ⟨⟨by decide, by decide⟩, Or.inl ⟨by decide +kernel, rfl⟩⟩
theorem r_0_cross_39 : RKv M_X0_cross M_X0_layOut 39 1 0 42 := ⟨42, by decide +kernel, wd_m0_42, ok_M_X0_layOut, wd_s0_layOut, rfl⟩
theorem r_0_cross_42 : RA M_X0_cross 42 0 43 := Or.inl ⟨0, by decide +kernel, rfl, rfl⟩
theorem r_0_cross_43 : RG M_X0_cross 43 0 4 46 := ⟨26, _, by decide +kernel, rfl, by decide, wd_f0_26, rfl, rfl⟩
theorem r_0_cross_46 : RC M_X0_cross 46 0 47 := ⟨⟨by decide, by decide⟩, Or.inl ⟨by decide +kernel, rfl⟩⟩
theorem r_0_cross_47 : RW M_X0_cross 47 .iaload 48 1 := ⟨by decide +kernel, rfl⟩
theorem r_0_cross_48 : RS M_X0_cross 48 2 49 := ⟨by decide, Or.inl ⟨2, by decide +kernel, rfl, rfl⟩⟩
theorem r_0_cross_49 : RL M_X0_cross 49 2 50 := Or.inl ⟨2, by decide +kernel, rfl, rfl⟩
theorem r_0_cross_50 : RB M_X0_cross 50 (.ifCond .lt) 83 53 := ⟨33, by decide +kernel, rfl, rfl⟩
theorem r_0_cross_83 : RA M_X0_cross 83 0 84 := Or.inl ⟨0, by decide +kernel, rfl, rfl⟩
theorem r_0_cross_84 : RG M_X0_cross 84 0 5 87 := ⟨29, _, by decide +kernel, rfl, by decide, wd_f0_29, rfl, rfl⟩
theorem r_0_cross_87 : RC M_X0_cross 87 0 88 := ⟨⟨by decide, by decide⟩, Or.inl ⟨by decide +kernel, rfl⟩⟩
theorem r_0_cross_88 : RW M_X0_cross 88 .iaload 89 1 := ⟨by decide +kernel, rfl⟩
theorem r_0_cross_89 : RC M_X0_cross 89 1000000000 91 := ⟨⟨by decide, by decide⟩, Or.inr (Or.inr (Or.inr (Or.inl ⟨50, by decide +kernel, wd_c0_50, rfl⟩)))⟩
theorem r_0_cross_91 : RB M_X0_cross 91 (.if_icmp .lt) 97 94 := ⟨6, by decide +kernel, rfl, rfl⟩
theorem r_0_cross_97 : RA M_X0_cross 97 0 98 := Or.inl ⟨0, by decide +kernel, rfl, rfl⟩
theorem r_0_cross_98 : RA M_X0_cross 98 0 99 := Or.inl ⟨0, by decide +kernel, rfl, rfl⟩
theorem r_0_cross_99 : RG M_X0_cross 99 0 5 102 := ⟨29, _, by decide +kernel, rfl, by decide, wd_f0_29, rfl, rfl⟩
theorem r_0_cross_102 : RC M_X0_cross 102 0 103 := ⟨⟨by decide, by decide⟩, Or.inl ⟨by decide +kernel, rfl⟩⟩
theorem r_0_cross_103 : RW M_X0_cross 103 .iaload 104 1 := ⟨by decide +kernel, rfl⟩
theorem r_0_cross_104 : RP M_X0_cross 104 0 8 107 := ⟨51, _, by decide +kernel, rfl, by decide, wd_f0_51, rfl, Or.inl rfl, rfl⟩
theorem r_0_cross_107 : RA M_X0_cross 107 0 108 := Or.inl ⟨0, by decide +kernel, rfl, rfl⟩
theorem r_0_cross_108 : RKv M_X0_cross M_X0_keepStarts 108 0 0 111 := ⟨55, by decide +kernel, wd_m0_55, ok_M_X0_keepStarts, wd_s0_keepStarts, rfl⟩
theorem r_0_cross_111 : RA M_X0_cross 111 0 112 := Or.inl ⟨0, by decide +kernel, rfl, rfl⟩
theorem r_0_cross_112 : RG M_X0_cross 112 0 1 115 := ⟨16, _, by decide +kernel, rfl, by decide, wd_f0_16, rfl, rfl⟩
theorem r_0_cross_115 : RC M_X0_cross 115 0 116 := ⟨⟨by decide, by decide⟩, Or.inl ⟨by decide +kernel, rfl⟩⟩
theorem r_0_cross_116 : RC M_X0_cross 116 0 117 := ⟨⟨by decide, by decide⟩, Or.inl ⟨by decide +kernel, rfl⟩⟩
theorem r_0_cross_117 : RW M_X0_cross 117 .iastore 118 1 := ⟨by decide +kernel, rfl⟩
theorem r_0_cross_118 : RA M_X0_cross 118 0 119 := Or.inl ⟨0, by decide +kernel, rfl, rfl⟩
theorem r_0_cross_119 : RG M_X0_cross 119 0 1 122 := ⟨16, _, by decide +kernel, rfl, by decide, wd_f0_16, rfl, rfl⟩
theorem r_0_cross_122 : RC M_X0_cross 122 1 123 := ⟨⟨by decide, by decide⟩, Or.inl ⟨by decide +kernel, rfl⟩⟩
theorem r_0_cross_123 : RC M_X0_cross 123 0 124 := ⟨⟨by decide, by decide⟩, Or.inl ⟨by decide +kernel, rfl⟩⟩
theorem r_0_cross_124 : RW M_X0_cross 124 .iastore 125 1 := ⟨by decide +kernel, rfl⟩
theorem r_0_cross_125 : RA M_X0_cross 125 0 126 := Or.inl ⟨0, by decide +kernel, rfl, rfl⟩
theorem r_0_cross_126 : RG M_X0_cross 126 0 8 129 := ⟨51, _, by decide +kernel, rfl, by decide, wd_f0_51, rfl, rfl⟩
theorem r_0_cross_129 : RW M_X0_cross 129 .ireturn 130 1 := ⟨by decide +kernel, rfl⟩
theorem r_0_cross_94 : RC M_X0_cross 94 (-4) 96 := ⟨⟨by decide, by decide⟩, Or.inr (Or.inl ⟨by decide +kernel, by decide, rfl⟩)⟩
theorem r_0_cross_96 : RW M_X0_cross 96 .ireturn 97 1 := ⟨by decide +kernel, rfl⟩
theorem r_0_cross_53 : RA M_X0_cross 53 0 54 := Or.inl ⟨0, by decide +kernel, rfl, rfl⟩
theorem r_0_cross_54 : RG M_X0_cross 54 0 4 57 := ⟨26, _, by decide +kernel, rfl, by decide, wd_f0_26, rfl, rfl⟩
theorem r_0_cross_57 : RC M_X0_cross 57 1 58 := ⟨⟨by decide, by decide⟩, Or.inl ⟨by decide +kernel, rfl⟩⟩
theorem r_0_cross_58 : RW M_X0_cross 58 .iaload 59 1 := ⟨by decide +kernel, rfl⟩
theorem r_0_cross_59 : RS M_X0_cross 59 3 60 := ⟨by decide, Or.inl ⟨3, by decide +kernel, rfl, rfl⟩⟩
theorem r_0_cross_60 : RL M_X0_cross 60 3 61 := Or.inl ⟨3, by decide +kernel, rfl, rfl⟩
theorem r_0_cross_61 : RB M_X0_cross 61 (.ifCond .lt) 77 64 := ⟨16, by decide +kernel, rfl, rfl⟩
theorem r_0_cross_77 : RI M_X0_cross 77 2 (-1) 80 := ⟨by decide, by decide +kernel, rfl⟩
theorem r_0_cross_80 : RB M_X0_cross 80 .goto 49 83 := ⟨(-31), by decide +kernel, rfl, rfl⟩
theorem r_0_cross_64 : RA M_X0_cross 64 0 65 := Or.inl ⟨0, by decide +kernel, rfl, rfl⟩
theorem r_0_cross_65 : RL M_X0_cross 65 2 66 := Or.inl ⟨2, by decide +kernel, rfl, rfl⟩
theorem r_0_cross_66 : RL M_X0_cross 66 3 67 := Or.inl ⟨3, by decide +kernel, rfl, rfl⟩
theorem r_0_cross_67 : RL M_X0_cross 67 1 68 := Or.inl ⟨1, by decide +kernel, rfl, rfl⟩
theorem r_0_cross_68 : RKv M_X0_cross M_X0_decide 68 3 0 71 := ⟨46, by decide +kernel, wd_m0_46, ok_M_X0_decide, wd_s0_decide, rfl⟩
theorem r_0_cross_71 : RI M_X0_cross 71 3 (-1) 74 := ⟨by decide, by decide +kernel, rfl⟩
theorem r_0_cross_74 : RB M_X0_cross 74 .goto 60 77 := ⟨(-14), by decide +kernel, rfl, rfl⟩
theorem r_0_cross_9 : RC M_X0_cross 9 (-1) 10 := ⟨⟨by decide, by decide⟩, Or.inl ⟨by decide +kernel, rfl⟩⟩
theorem r_0_cross_10 : RW M_X0_cross 10 .ireturn 11 1 := ⟨by decide +kernel, rfl⟩
theorem r_11_bridge_0 : RA M_X11_bridge 0 0 1 := Or.inl ⟨0, by decide +kernel, rfl, rfl⟩
theorem r_11_bridge_1 : RG M_X11_bridge 1 11 7 4 := ⟨71, _, by decide +kernel, rfl, by decide, wd_f11_71, rfl, rfl⟩
theorem r_11_bridge_4 : RL M_X11_bridge 4 1 5 := Or.inl ⟨1, by decide +kernel, rfl, rfl⟩
theorem r_11_bridge_5 : RKv M_X11_bridge M_X0_cross 5 1 0 8 := ⟨204, by decide +kernel, wd_m11_204, ok_M_X0_cross, wd_s0_cross, rfl⟩
theorem r_11_bridge_8 : RW M_X11_bridge 8 .ireturn 9 1 := ⟨by decide +kernel, rfl⟩
set_option maxRecDepth 10000 in
theorem sp_X0_cross {l : Launch} {w : Wo} {d : Nat} {G : PH} {P : Option PV → PH → Prop} {h : Int} (hz0 : 0 ≤ (gA G 22 0 (0)) ∧ (gA G 22 0 (0)) ≤ 10) (hz1 : 0 ≤ (gA G 22 0 (1)) ∧ (gA G 22 0 (1)) ≤ 10) (hm0 : ∀ i, 0 ≤ i → i < (gA G 22 0 (0)) → 1 ≤ (gA G 21 0 (i)) ∧ (gA G 21 0 (i)) ≤ 9) (hm1 : ∀ i, 0 ≤ i → i < (gA G 22 0 (1)) → 1 ≤ (gA G 21 (1) (i)) ∧ (gA G 21 (1) (i)) ≤ 9) (h1 : ¬ (1 ≤ h ∧ h ≤ 3) → P (some (vI (-1))) G) (h2 : (1 ≤ h ∧ h ≤ 3) → ((gA G 22 0 (0)) = 0 ∨ (gA G 22 0 (1)) = 0) → P (some (vI (-3))) G) (h3 : (1 ≤ h ∧ h ≤ 3) → ((gA G 22 0 (0)) ≠ 0 ∧ (gA G 22 0 (1)) ≠ 0) → ∀ (T0 T1 : Int) (f0 g0 f1 g1 tb lr wk : Int → Int), RWy (gA G 22 0 (0)) (gA G 21 0) T0 → RWy (gA G 22 0 (1)) (gA G 21 (1)) T1 → BEL (gA G 21 0) (gA G 21 (1)) T0 T1 h (tvF tb) → lr 0 = tb 0 → 1000000000 ≤ tb 0 → P (some (vI (-4))) (uA (uA (sA (uA (uA (sA (uA (uA G 24 0 (f0)) 26 0 (g0)) 27 0 (0) (T0)) 24 (1) (f1)) 26 (1) (g1)) 27 0 (1) (T1)) 28 0 (lr)) 107 0 (wk))) (h4 : (1 ≤ h ∧ h ≤ 3) → ((gA G 22 0 (0)) ≠ 0 ∧ (gA G 22 0 (1)) ≠ 0) → ∀ (T0 T1 : Int) (f0 g0 f1 g1 tb lr wk : Int → Int), RWy (gA G 22 0 (0)) (gA G 21 0) T0 → RWy (gA G 22 0 (1)) (gA G 21 (1)) T1 → BEL (gA G 21 0) (gA G 21 (1)) T0 T1 h (tvF tb) → lr 0 = tb 0 → tb 0 < 1000000000 → ∀ st : Int → Int, (∀ m, 0 ≤ m → m < lr 0 → st m = bgF (gA G 21 0) (gA G 21 (1)) T0 T1 h (tvF tb) (ptI (gA G 21 0) (gA G 21 (1)) T0 T1 h (tvF tb) m).1 (ptI (gA G 21 0) (gA G 21 (1)) T0 T1 h (tvF tb) m).2) → P (some (vI (lr 0))) (sA (sA (uA (sF (uA (uA (sA (uA (uA (sA (uA (uA G 24 0 (f0)) 26 0 (g0)) 27 0 (0) (T0)) 24 (1) (f1)) 26 (1) (g1)) 27 0 (1) (T1)) 28 0 (lr)) 107 0 (wk)) 0 0 8 (lr 0)) 29 0 (st)) 22 0 (0) (0)) 22 0 (1) (0))) : PW l w M_X0_cross (d + 5) 0 [some (vR 0 (0)), some (vI (h)), none, none] [] G P := by
  refine pw_iload r_0_cross_0 rfl ?_
  refine pw_const r_0_cross_1 ?_
  refine pw_const r_0_cross_2 ?_
  refine pw_callS (av := [vI (h), vI (1), vI (3)]) (st := []) (ls0 := [some (vI (h)), some (vI (1)), some (vI (3))]) r_0_cross_3 rfl rfl rfl (Nat.le_refl _) ?_
  refine sp_X11_within  ?_
  refine pw_if_neB r_0_cross_6 (fun h06 => ?_) (fun h06 => ?_)
  · skip
    have c1 : 1 ≤ h ∧ h ≤ 3 := by omega
    refine pw_aload r_0_cross_11 rfl ?_
    refine pw_getR r_0_cross_12 fs_0_1 (by decide) ?_
    refine pw_const r_0_cross_15 ?_
    refine pw_iald r_0_cross_16 sh22 (by omega) (by omega) ?_
    refine pw_if_eq r_0_cross_17 (fun h17 => ?_) (fun h17 => ?_)
    · skip
      refine pw_const r_0_cross_29 ?_
      refine pw_iret r_0_cross_31 rfl (Nat.le_refl _) ⟨rfl, ?_⟩
      exact h2 (by omega) (by omega)
    · skip
      refine pw_aload r_0_cross_20 rfl ?_
      refine pw_getR r_0_cross_21 fs_0_1 (by decide) ?_
      refine pw_const r_0_cross_24 ?_
      refine pw_iald r_0_cross_25 sh22 (by omega) (by omega) ?_
      refine pw_if_ne r_0_cross_26 (fun h26 => ?_) (fun h26 => ?_)
      · skip
        have c2 : (gA G 22 0 (0)) ≠ 0 ∧ (gA G 22 0 (1)) ≠ 0 := ⟨by omega, by omega⟩
        refine pw_aload r_0_cross_32 rfl ?_
        refine pw_const r_0_cross_33 ?_
        refine pw_callV (av := [vI (0)]) (st := []) (ls0 := [some (vR 0 (0)), some (vI (0)), none, none, none, none]) r_0_cross_34 rfl rfl rfl (Nat.le_refl _) ?_
        refine sp_X0_layOut (by exact Or.inl rfl) (by exact hz0) (by exact hm0) ?_
        intro T0 f0 g0 hRA hLA
        refine pw_aload r_0_cross_37 rfl ?_
        refine pw_const r_0_cross_38 ?_
        refine pw_callV (av := [vI (1)]) (st := []) (ls0 := [some (vR 0 (0)), some (vI (1)), none, none, none, none]) r_0_cross_39 rfl rfl rfl (Nat.le_refl _) ?_
        refine sp_X0_layOut (by exact Or.inr rfl) (by exact hz1) (by exact hm1) ?_
        intro T1 f1 g1 hRB hLB
        have hTT : T0 ≤ 90 ∧ T1 ≤ 90 := ⟨hRA.1.2, hRB.1.2⟩
        have hTZ : (0 ≤ T0 ∧ T0 ≤ 90) ∧ 0 ≤ T1 ∧ T1 ≤ 90 := ⟨hRA.1, hRB.1⟩
        refine pw_aload r_0_cross_42 rfl ?_
        refine pw_getR r_0_cross_43 fs_0_4 (by decide) ?_
        refine pw_const r_0_cross_46 ?_
        refine pw_ialdv (v := T0) r_0_cross_47 sh27 (by omega) (by omega) (by first | rfl | simp [gF_sF, gF_sA, gF_uA, gF_sD, gA_sF, gA_sA, gA_uA, gA_sD, gD_sF, gD_sA, gD_uA, gD_sD]) ?_
        refine pw_istore (ls' := [some (vR 0 (0)), some (vI (h)), some (vI (T0)), none]) r_0_cross_48 rfl rfl ?_
        have L49 : ∀ (nF : Nat) (a : Int) (tb lr wk : Int → Int), (ha : -1 ≤ a ∧ a ≤ T0) → (hbl : belP (gA G 21 0) (gA G 21 (1)) T0 T1 h (tvF tb) a T1) → (hlr : LRW T0 T1 tb lr a T1) → (hwk : WKP (gA G 21 0) (gA G 21 (1)) T0 T1 h tb wk a T1) → (a + 1).toNat < nF → PW l w M_X0_cross (d + 5) 49 [some (vR 0 (0)), some (vI (h)), some (vI (a)), none] [] (uA (uA (sA (uA (uA (sA (uA (uA G 24 (0) (f0)) 26 (0) (g0)) 27 (0) (0) (T0)) 24 (1) (f1)) 26 (1) (g1)) 27 (0) (1) (T1)) 28 (0) (lr)) 107 (0) (wk)) P := by
          intro nF
          induction nF with
          | zero => intro _ _ _ _ _ _ _ _ hM; exact absurd hM (Nat.not_lt_zero _)
          | succ nF ih49 =>
            intro a tb lr wk ha hbl hlr hwk hM49
            refine pw_iload r_0_cross_49 rfl ?_
            refine pw_if_lt r_0_cross_50 (fun h50 => ?_) (fun h50 => ?_)
            · skip
              have ea : a = -1 := by omega
              rw [ea] at hbl hlr hwk
              have hBE := bp_all hbl
              have hWA := wk_all hwk
              have hb0 := bel_0 hBE hTZ
              have e00 : tvF tb 0 0 = tb 0 := rfl
              have e01 : lr 0 = tb 0 := by have q := hlr 0 0 (Int.le_refl 0) hTZ.1.1 (Int.le_refl 0) hTZ.2.1 (Or.inr (by decide)); rw [show (0 : Int) % 2 * 91 + 0 = 0 by decide, show (0 : Int) * 91 + 0 = 0 by decide] at q; exact q
              refine pw_aload r_0_cross_83 rfl ?_
              refine pw_getR r_0_cross_84 fs_0_5 (by decide) ?_
              refine pw_const r_0_cross_87 ?_
              refine pw_ialdv (v := (lr) (0)) r_0_cross_88 sh28 (by omega) (by omega) (by first | rfl | simp [gF_sF, gF_sA, gF_uA, gF_sD, gA_sF, gA_sA, gA_uA, gA_sD, gD_sF, gD_sA, gD_uA, gD_sD]) ?_
              refine pw_const r_0_cross_89 ?_
              refine pw_icmp_lt r_0_cross_91 (fun h91 => ?_) (fun h91 => ?_)
              · skip
                refine pw_aload r_0_cross_97 rfl ?_
                refine pw_aload r_0_cross_98 rfl ?_
                refine pw_getR r_0_cross_99 fs_0_5 (by decide) ?_
                refine pw_const r_0_cross_102 ?_
                refine pw_ialdv (v := (lr) (0)) r_0_cross_103 sh28 (by omega) (by omega) (by first | rfl | simp [gF_sF, gF_sA, gF_uA, gF_sD, gA_sF, gA_sA, gA_uA, gA_sD, gD_sF, gD_sA, gD_uA, gD_sD]) ?_
                refine pw_putI r_0_cross_104 (by decide +kernel) fs_0_8 (by decide) ?_
                refine pw_aload r_0_cross_107 rfl ?_
                refine pw_callV (av := []) (st := []) (ls0 := [some (vR 0 (0)), none, none, none, none, none, none]) r_0_cross_108 rfl rfl rfl (Nat.le_refl _) ?_
                refine sp_X0_keepStarts (h := h) (wa := (gA G 21 0)) (wb := (gA G 21 (1))) (V := (tvF tb)) (by exact hTZ) (by exact hLA) (by exact hLB) (by exact hBE) (by exact hWA) (by exact ⟨e01.trans e00.symm, by omega⟩) ?_
                intro st hst
                refine pw_aload r_0_cross_111 rfl ?_
                refine pw_getR r_0_cross_112 fs_0_1 (by decide) ?_
                refine pw_const r_0_cross_115 ?_
                refine pw_const r_0_cross_116 ?_
                refine pw_iast r_0_cross_117 sh22 (by omega) (by omega) ?_
                refine pw_aload r_0_cross_118 rfl ?_
                refine pw_getR r_0_cross_119 fs_0_1 (by decide) ?_
                refine pw_const r_0_cross_122 ?_
                refine pw_const r_0_cross_123 ?_
                refine pw_iast r_0_cross_124 sh22 (by omega) (by omega) ?_
                refine pw_aload r_0_cross_125 rfl ?_
                refine pw_getIv (v := (lr) (0)) r_0_cross_126 fs_0_8 (by decide) (by first | rfl | simp [gF_sF, gF_sA, gF_uA, gF_sD, gA_sF, gA_sA, gA_uA, gA_sD, gD_sF, gD_sA, gD_uA, gD_sD]) ?_
                refine pw_iret r_0_cross_129 rfl (Nat.le_refl _) ⟨rfl, ?_⟩
                exact h4 c1 c2 T0 T1 f0 g0 f1 g1 tb lr wk hRA hRB hBE e01 (by omega) st hst
              · skip
                refine pw_const r_0_cross_94 ?_
                refine pw_iret r_0_cross_96 rfl (Nat.le_refl _) ⟨rfl, ?_⟩
                exact h3 c1 c2 T0 T1 f0 g0 f1 g1 tb lr wk hRA hRB hBE e01 (by omega)
            · skip
              refine pw_aload r_0_cross_53 rfl ?_
              refine pw_getR r_0_cross_54 fs_0_4 (by decide) ?_
              refine pw_const r_0_cross_57 ?_
              refine pw_ialdv (v := T1) r_0_cross_58 sh27 (by omega) (by omega) (by first | rfl | simp [gF_sF, gF_sA, gF_uA, gF_sD, gA_sF, gA_sA, gA_uA, gA_sD, gD_sF, gD_sA, gD_uA, gD_sD]) ?_
              refine pw_istore (ls' := [some (vR 0 (0)), some (vI (h)), some (vI (a)), some (vI (T1))]) r_0_cross_59 rfl rfl ?_
              have L60 : ∀ (nF : Nat) (b : Int) (tb2 lr2 wk2 : Int → Int), (hb : -1 ≤ b ∧ b ≤ T1) → (hbl2 : belP (gA G 21 0) (gA G 21 (1)) T0 T1 h (tvF tb2) a b) → (hlr2 : LRW T0 T1 tb2 lr2 a b) → (hwk2 : WKP (gA G 21 0) (gA G 21 (1)) T0 T1 h tb2 wk2 a b) → (b + 1).toNat < nF → PW l w M_X0_cross (d + 5) 60 [some (vR 0 (0)), some (vI (h)), some (vI (a)), some (vI (b))] [] (uA (uA (sA (uA (uA (sA (uA (uA G 24 (0) (f0)) 26 (0) (g0)) 27 (0) (0) (T0)) 24 (1) (f1)) 26 (1) (g1)) 27 (0) (1) (T1)) 28 (0) (lr2)) 107 (0) (wk2)) P := by
                intro nF
                induction nF with
                | zero => intro _ _ _ _ _ _ _ _ hM; exact absurd hM (Nat.not_lt_zero _)
                | succ nF ih60 =>
                  intro b tb2 lr2 wk2 hb hbl2 hlr2 hwk2 hM60
                  refine pw_iload r_0_cross_60 rfl ?_
                  refine pw_if_lt r_0_cross_61 (fun h61 => ?_) (fun h61 => ?_)
                  · skip
                    refine pw_iinc (b := 0) (ls' := [some (vR 0 (0)), some (vI (h)), some (vI ((a + (-1)))), some (vI (b))]) r_0_cross_77 rfl rfl (by omega) rfl ?_
                    refine pw_goto r_0_cross_80 ?_
                    refine pw_weakL (ls' := [some (vR 0 (0)), some (vI (h)), some (vI ((a + (-1)))), none]) (⟨rfl, ⟨rfl, ⟨rfl, trivial⟩⟩⟩) ?_
                    exact ih49 ((a + (-1))) (tb2) (lr2) (wk2) (by omega) (bp_row2 hbl2 (by omega)) (lr_row hlr2 (by omega)) (wk_row hwk2 (by omega)) (by omega)
                  · skip
                    have hra : 0 ≤ a ∧ a ≤ T0 := ⟨by omega, ha.2⟩
                    have hrb : 0 ≤ b ∧ b ≤ T1 := ⟨by omega, hb.2⟩
                    have hvi := vU_in hbl2 hra hrb hTT
                    have hdp := dec_put hbl2 hlr2 hwk2 hra hrb hTT (v := ((dcI (vU (gA G 21 0) (gA G 21 (1)) T0 T1 h (tvF tb2) a b) (eV T0 T1 a b) 3).1)) (u := (dcI (vU (gA G 21 0) (gA G 21 (1)) T0 T1 h (tvF tb2) a b) (eV T0 T1 a b) 3).2) rfl
                    refine pw_aload r_0_cross_64 rfl ?_
                    refine pw_iload r_0_cross_65 rfl ?_
                    refine pw_iload r_0_cross_66 rfl ?_
                    refine pw_iload r_0_cross_67 rfl ?_
                    refine pw_callV (av := [vI (a), vI (b), vI (h)]) (st := []) (ls0 := [some (vR 0 (0)), some (vI (a)), some (vI (b)), some (vI (h)), none, none, none, none, none]) r_0_cross_68 rfl rfl rfl (Nat.le_refl _) ?_
                    refine sp_X0_decide (e := (eV T0 T1 a b)) (v := (vU (gA G 21 0) (gA G 21 (1)) T0 T1 h (tvF tb2) a b)) (by exact hTZ) (by exact ov_of hRA hRB hLA hLB hz0 hz1) (by exact ⟨hra, hrb⟩) (by exact c1) (by exact eV_or (TA := T0) (TB := T1) (a := a) (b := b)) (by exact fun u hu => vw_of (V := tvF tb2) (tb := lr2) (o0 := f0) (o1 := f1) (r0 := g0) (r1 := g1) hLA hLB hra hrb (pAB_0 hu) (fun z => lr_at hlr2 hra hrb hu z)) (by exact hvi) ?_
                    refine pw_eqG (G' := sA (sA (uA (uA (sA (uA (uA (sA (uA (uA G 24 (0) (f0)) 26 (0) (g0)) 27 (0) (0) (T0)) 24 (1) (f1)) 26 (1) (g1)) 27 (0) (1) (T1)) 28 (0) (lr2)) 107 (0) (wk2)) 28 (0) (a % 2 * 91 + b) ((dcI (vU (gA G 21 0) (gA G 21 (1)) T0 T1 h (tvF tb2) a b) (eV T0 T1 a b) 3).1)) 107 (0) ((a * 91 + b) / 16) (wpI ((wk2) ((a * 91 + b) / 16)) ((a * 91 + b) % 16) ((dcI (vU (gA G 21 0) (gA G 21 (1)) T0 T1 h (tvF tb2) a b) (eV T0 T1 a b) 3).2))) (by first | rfl | simp (disch := decide) [gF_sF, gF_sA, gF_uA, gF_sD, gA_sF, gA_sA, gA_uA, gA_sD, gD_sF, gD_sA, gD_uA, gD_sD]) ?_
                    refine pw_iinc (b := 0) (ls' := [some (vR 0 (0)), some (vI (h)), some (vI (a)), some (vI ((b + (-1))))]) r_0_cross_71 rfl rfl (by omega) rfl ?_
                    refine pw_goto r_0_cross_74 ?_
                    refine pw_eqG (G' := uA (uA (sA (uA (uA (sA (uA (uA G 24 (0) (f0)) 26 (0) (g0)) 27 (0) (0) (T0)) 24 (1) (f1)) 26 (1) (g1)) 27 (0) (1) (T1)) 28 (0) ((upA lr2 (a % 2 * 91 + b) ((dcI (vU (gA G 21 0) (gA G 21 (1)) T0 T1 h (tvF tb2) a b) (eV T0 T1 a b) 3).1)))) 107 (0) ((upA wk2 ((a * 91 + b) / 16) (wpI ((wk2) ((a * 91 + b) / 16)) ((a * 91 + b) % 16) ((dcI (vU (gA G 21 0) (gA G 21 (1)) T0 T1 h (tvF tb2) a b) (eV T0 T1 a b) 3).2))))) (by rw [sA_uA_ne _ _ _ _ _ _ _ _ (by decide), sA_uA, sA_uA]) ?_
                    exact ih60 ((b + (-1))) ((upA tb2 (a * 91 + b) ((dcI (vU (gA G 21 0) (gA G 21 (1)) T0 T1 h (tvF tb2) a b) (eV T0 T1 a b) 3).1))) ((upA lr2 (a % 2 * 91 + b) ((dcI (vU (gA G 21 0) (gA G 21 (1)) T0 T1 h (tvF tb2) a b) (eV T0 T1 a b) 3).1))) ((upA wk2 ((a * 91 + b) / 16) (wpI ((wk2) ((a * 91 + b) / 16)) ((a * 91 + b) % 16) ((dcI (vU (gA G 21 0) (gA G 21 (1)) T0 T1 h (tvF tb2) a b) (eV T0 T1 a b) 3).2)))) (by omega) (hdp.1) (hdp.2.1) (hdp.2.2) (by omega)
              exact L60 _ (T1) (tb) (lr) (wk) (by omega) (hbl) (hlr) (hwk) (Nat.lt_succ_self _)
        refine pw_eqG (G' := uA (uA (sA (uA (uA (sA (uA (uA G 24 (0) (f0)) 26 (0) (g0)) 27 (0) (0) (T0)) 24 (1) (f1)) 26 (1) (g1)) 27 (0) (1) (T1)) 28 (0) ((gA G 28 0))) 107 (0) ((gA G 107 0))) (by exact (uA_own _ 28 0).symm.trans (uA_own _ 107 0).symm) ?_
        exact L49 _ (T0) ((fun _ => 0)) ((gA G 28 0)) ((gA G 107 0)) (by omega) (bp_0) (lr_0) (wk_0) (Nat.lt_succ_self _)
      · skip
        refine pw_const r_0_cross_29 ?_
        refine pw_iret r_0_cross_31 rfl (Nat.le_refl _) ⟨rfl, ?_⟩
        exact h2 (by omega) (by omega)
  · skip
    refine pw_const r_0_cross_9 ?_
    refine pw_iret r_0_cross_10 rfl (Nat.le_refl _) ⟨rfl, ?_⟩
    exact h1 (by omega)
set_option maxRecDepth 10000 in
theorem sp_X11_bridge {l : Launch} {w : Wo} {d : Nat} {G : PH} {P : Option PV → PH → Prop} {h : Int} (hz0 : 0 ≤ (gA G 22 0 (0)) ∧ (gA G 22 0 (0)) ≤ 10) (hz1 : 0 ≤ (gA G 22 0 (1)) ∧ (gA G 22 0 (1)) ≤ 10) (hm0 : ∀ i, 0 ≤ i → i < (gA G 22 0 (0)) → 1 ≤ (gA G 21 0 (i)) ∧ (gA G 21 0 (i)) ≤ 9) (hm1 : ∀ i, 0 ≤ i → i < (gA G 22 0 (1)) → 1 ≤ (gA G 21 (1) (i)) ∧ (gA G 21 (1) (i)) ≤ 9) (h1 : ¬ (1 ≤ h ∧ h ≤ 3) → P (some (vI (-1))) G) (h2 : (1 ≤ h ∧ h ≤ 3) → ((gA G 22 0 (0)) = 0 ∨ (gA G 22 0 (1)) = 0) → P (some (vI (-3))) G) (h3 : (1 ≤ h ∧ h ≤ 3) → ((gA G 22 0 (0)) ≠ 0 ∧ (gA G 22 0 (1)) ≠ 0) → ∀ (T0 T1 : Int) (f0 g0 f1 g1 tb lr wk : Int → Int), RWy (gA G 22 0 (0)) (gA G 21 0) T0 → RWy (gA G 22 0 (1)) (gA G 21 (1)) T1 → BEL (gA G 21 0) (gA G 21 (1)) T0 T1 h (tvF tb) → lr 0 = tb 0 → 1000000000 ≤ tb 0 → P (some (vI (-4))) (uA (uA (sA (uA (uA (sA (uA (uA G 24 0 (f0)) 26 0 (g0)) 27 0 0 (T0)) 24 (1) (f1)) 26 (1) (g1)) 27 0 (1) (T1)) 28 0 (lr)) 107 0 (wk))) (h4 : (1 ≤ h ∧ h ≤ 3) → ((gA G 22 0 (0)) ≠ 0 ∧ (gA G 22 0 (1)) ≠ 0) → ∀ (T0 T1 : Int) (f0 g0 f1 g1 tb lr wk : Int → Int), RWy (gA G 22 0 (0)) (gA G 21 0) T0 → RWy (gA G 22 0 (1)) (gA G 21 (1)) T1 → BEL (gA G 21 0) (gA G 21 (1)) T0 T1 h (tvF tb) → lr 0 = tb 0 → tb 0 < 1000000000 → ∀ st : Int → Int, (∀ m, 0 ≤ m → m < lr 0 → st m = bgF (gA G 21 0) (gA G 21 (1)) T0 T1 h (tvF tb) (ptI (gA G 21 0) (gA G 21 (1)) T0 T1 h (tvF tb) m).1 (ptI (gA G 21 0) (gA G 21 (1)) T0 T1 h (tvF tb) m).2) → P (some (vI (lr 0))) (sA (sA (uA (sF (uA (uA (sA (uA (uA (sA (uA (uA G 24 0 (f0)) 26 0 (g0)) 27 0 0 (T0)) 24 (1) (f1)) 26 (1) (g1)) 27 0 (1) (T1)) 28 0 (lr)) 107 0 (wk)) 0 0 8 (lr 0)) 29 0 (st)) 22 0 0 (0)) 22 0 (1) (0))) : PW l w M_X11_bridge (d + 6) 0 [some (vR 11 (0)), some (vI (h))] [] G P := by
  refine pw_aload r_11_bridge_0 rfl ?_
  refine pw_getR r_11_bridge_1 fs_11_7 (by decide) ?_
  refine pw_iload r_11_bridge_4 rfl ?_
  refine pw_callV (av := [vI (h)]) (st := []) (ls0 := [some (vR 0 (0)), some (vI (h)), none, none]) r_11_bridge_5 rfl rfl rfl (Nat.le_refl _) ?_
  refine sp_X0_cross (by first | assumption | exact hz0 | omega) (by first | assumption | exact hz1 | omega) (by first | assumption | exact hm0 | omega) (by first | assumption | exact hm1 | omega) ?_ ?_ ?_ ?_
  · skip
    intro q1
    refine pw_iret r_11_bridge_8 rfl (Nat.le_refl _) ⟨rfl, ?_⟩
    exact h1 q1
  · skip
    intro q1 q2
    refine pw_iret r_11_bridge_8 rfl (Nat.le_refl _) ⟨rfl, ?_⟩
    exact h2 q1 q2
  · skip
    intro q1 q2 T0 T1 f0 g0 f1 g1 tb lr wk q3 q4 q5 q6 q7
    refine pw_iret r_11_bridge_8 rfl (Nat.le_refl _) ⟨rfl, ?_⟩
    exact h3 q1 q2 T0 T1 f0 g0 f1 g1 tb lr wk q3 q4 q5 q6 q7
  · skip
    intro q1 q2 T0 T1 f0 g0 f1 g1 tb lr wk q3 q4 q5 q6 q7 st q8
    refine pw_iret r_11_bridge_8 rfl (Nat.le_refl _) ⟨rfl, ?_⟩
    exact h4 q1 q2 T0 T1 f0 g0 f1 g1 tb lr wk q3 q4 q5 q6 q7 st q8
