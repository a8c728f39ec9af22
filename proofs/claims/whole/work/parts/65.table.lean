theorem wd_m0_55 : Cond.methodLink "NameRolls$Bridge" 55 M_X0_leastAfter.1 ∈ UW := UW6_at 94 (by decide +kernel) rfl
theorem wd_s0_leastAfter : Cond.selects M_X0_leastAfter.1.cls M_X0_leastAfter.1 M_X0_leastAfter.1 ∈ UW := UWp_at 46 (by decide +kernel) rfl
theorem wd_m0_59 : Cond.methodLink "NameRolls$Bridge" 59 Lib.Math.min.name ∈ UW := UW6_at 100 (by decide +kernel) rfl
theorem r_0_leastFrom_0 : RL M_X0_leastFrom 0 1 1 := Or.inl ⟨1, by decide +kernel, rfl, rfl⟩
theorem r_0_leastFrom_1 : RA M_X0_leastFrom 1 0 2 := Or.inl ⟨0, by decide +kernel, rfl, rfl⟩
theorem r_0_leastFrom_2 : RG M_X0_leastFrom 2 0 4 5 := ⟨26, _, by decide +kernel, rfl, by decide, wd_f0_26, rfl, rfl⟩
theorem r_0_leastFrom_5 : RC M_X0_leastFrom 5 0 6 := ⟨⟨by decide, by decide⟩, Or.inl ⟨by decide +kernel, rfl⟩⟩
theorem r_0_leastFrom_6 : RW M_X0_leastFrom 6 .iaload 7 1 := ⟨by decide +kernel, rfl⟩
theorem r_0_leastFrom_7 : RB M_X0_leastFrom 7 (.if_icmp .ne) 22 10 := ⟨15, by decide +kernel, rfl, rfl⟩
theorem r_0_leastFrom_22 : RA M_X0_leastFrom 22 0 23 := Or.inl ⟨0, by decide +kernel, rfl, rfl⟩
theorem r_0_leastFrom_23 : RL M_X0_leastFrom 23 1 24 := Or.inl ⟨1, by decide +kernel, rfl, rfl⟩
theorem r_0_leastFrom_24 : RL M_X0_leastFrom 24 2 25 := Or.inl ⟨2, by decide +kernel, rfl, rfl⟩
theorem r_0_leastFrom_25 : RC M_X0_leastFrom 25 3 26 := ⟨⟨by decide, by decide⟩, Or.inl ⟨by decide +kernel, rfl⟩⟩
theorem r_0_leastFrom_26 : RL M_X0_leastFrom 26 3 27 := Or.inl ⟨3, by decide +kernel, rfl, rfl⟩
theorem r_0_leastFrom_27 : RKv M_X0_leastFrom M_X0_leastAfter 27 4 0 30 := ⟨55, by decide +kernel, wd_m0_55, ok_M_X0_leastAfter, wd_s0_leastAfter, rfl⟩
theorem r_0_leastFrom_30 : RS M_X0_leastFrom 30 4 32 := ⟨by decide, Or.inr ⟨by decide +kernel, rfl⟩⟩
theorem r_0_leastFrom_32 : RA M_X0_leastFrom 32 0 33 := Or.inl ⟨0, by decide +kernel, rfl, rfl⟩
theorem r_0_leastFrom_33 : RL M_X0_leastFrom 33 1 34 := Or.inl ⟨1, by decide +kernel, rfl, rfl⟩
theorem r_0_leastFrom_34 : RL M_X0_leastFrom 34 2 35 := Or.inl ⟨2, by decide +kernel, rfl, rfl⟩
theorem r_0_leastFrom_35 : RC M_X0_leastFrom 35 1 36 := ⟨⟨by decide, by decide⟩, Or.inl ⟨by decide +kernel, rfl⟩⟩
theorem r_0_leastFrom_36 : RL M_X0_leastFrom 36 3 37 := Or.inl ⟨3, by decide +kernel, rfl, rfl⟩
theorem r_0_leastFrom_37 : RKv M_X0_leastFrom M_X0_leastAfter 37 4 0 40 := ⟨55, by decide +kernel, wd_m0_55, ok_M_X0_leastAfter, wd_s0_leastAfter, rfl⟩
theorem r_0_leastFrom_40 : RA M_X0_leastFrom 40 0 41 := Or.inl ⟨0, by decide +kernel, rfl, rfl⟩
theorem r_0_leastFrom_41 : RL M_X0_leastFrom 41 1 42 := Or.inl ⟨1, by decide +kernel, rfl, rfl⟩
theorem r_0_leastFrom_42 : RL M_X0_leastFrom 42 2 43 := Or.inl ⟨2, by decide +kernel, rfl, rfl⟩
theorem r_0_leastFrom_43 : RC M_X0_leastFrom 43 2 44 := ⟨⟨by decide, by decide⟩, Or.inl ⟨by decide +kernel, rfl⟩⟩
theorem r_0_leastFrom_44 : RL M_X0_leastFrom 44 3 45 := Or.inl ⟨3, by decide +kernel, rfl, rfl⟩
theorem r_0_leastFrom_45 : RKv M_X0_leastFrom M_X0_leastAfter 45 4 0 48 := ⟨55, by decide +kernel, wd_m0_55, ok_M_X0_leastAfter, wd_s0_leastAfter, rfl⟩
theorem r_0_leastFrom_48 : RKm M_X0_leastFrom 48 Lib.Math.min.name 51 := ⟨59, by decide +kernel, wd_m0_59, rfl⟩
theorem r_0_leastFrom_51 : RS M_X0_leastFrom 51 5 53 := ⟨by decide, Or.inr ⟨by decide +kernel, rfl⟩⟩
theorem r_0_leastFrom_53 : RC M_X0_leastFrom 53 1000000000 55 := ⟨⟨by decide, by decide⟩, Or.inr (Or.inr (Or.inr (Or.inl ⟨47, by decide +kernel, wd_c0_47, rfl⟩)))⟩
theorem r_0_leastFrom_55 : RC M_X0_leastFrom 55 1 56 := ⟨⟨by decide, by decide⟩, Or.inl ⟨by decide +kernel, rfl⟩⟩
theorem r_0_leastFrom_56 : RL M_X0_leastFrom 56 4 58 := Or.inr ⟨by decide +kernel, rfl⟩
theorem r_0_leastFrom_58 : RL M_X0_leastFrom 58 5 60 := Or.inr ⟨by decide +kernel, rfl⟩
theorem r_0_leastFrom_60 : RKm M_X0_leastFrom 60 Lib.Math.min.name 63 := ⟨59, by decide +kernel, wd_m0_59, rfl⟩
theorem r_0_leastFrom_63 : RW M_X0_leastFrom 63 .iadd 64 1 := ⟨by decide +kernel, rfl⟩
theorem r_0_leastFrom_64 : RKm M_X0_leastFrom 64 Lib.Math.min.name 67 := ⟨59, by decide +kernel, wd_m0_59, rfl⟩
theorem r_0_leastFrom_67 : RW M_X0_leastFrom 67 .ireturn 68 1 := ⟨by decide +kernel, rfl⟩
theorem r_0_leastFrom_10 : RL M_X0_leastFrom 10 2 11 := Or.inl ⟨2, by decide +kernel, rfl, rfl⟩
theorem r_0_leastFrom_11 : RA M_X0_leastFrom 11 0 12 := Or.inl ⟨0, by decide +kernel, rfl, rfl⟩
theorem r_0_leastFrom_12 : RG M_X0_leastFrom 12 0 4 15 := ⟨26, _, by decide +kernel, rfl, by decide, wd_f0_26, rfl, rfl⟩
theorem r_0_leastFrom_15 : RC M_X0_leastFrom 15 1 16 := ⟨⟨by decide, by decide⟩, Or.inl ⟨by decide +kernel, rfl⟩⟩
theorem r_0_leastFrom_16 : RW M_X0_leastFrom 16 .iaload 17 1 := ⟨by decide +kernel, rfl⟩
theorem r_0_leastFrom_17 : RB M_X0_leastFrom 17 (.if_icmp .ne) 22 20 := ⟨5, by decide +kernel, rfl, rfl⟩
theorem r_0_leastFrom_20 : RC M_X0_leastFrom 20 0 21 := ⟨⟨by decide, by decide⟩, Or.inl ⟨by decide +kernel, rfl⟩⟩
theorem r_0_leastFrom_21 : RW M_X0_leastFrom 21 .ireturn 22 1 := ⟨by decide +kernel, rfl⟩
theorem r_0_firstWalking_0 : RA M_X0_firstWalking 0 0 1 := Or.inl ⟨0, by decide +kernel, rfl, rfl⟩
theorem r_0_firstWalking_1 : RL M_X0_firstWalking 1 1 2 := Or.inl ⟨1, by decide +kernel, rfl, rfl⟩
theorem r_0_firstWalking_2 : RL M_X0_firstWalking 2 2 3 := Or.inl ⟨2, by decide +kernel, rfl, rfl⟩
theorem r_0_firstWalking_3 : RC M_X0_firstWalking 3 3 4 := ⟨⟨by decide, by decide⟩, Or.inl ⟨by decide +kernel, rfl⟩⟩
theorem r_0_firstWalking_4 : RL M_X0_firstWalking 4 4 6 := Or.inr ⟨by decide +kernel, rfl⟩
theorem r_0_firstWalking_6 : RKv M_X0_firstWalking M_X0_leastAfter 6 4 0 9 := ⟨55, by decide +kernel, wd_m0_55, ok_M_X0_leastAfter, wd_s0_leastAfter, rfl⟩
theorem r_0_firstWalking_9 : RL M_X0_firstWalking 9 3 10 := Or.inl ⟨3, by decide +kernel, rfl, rfl⟩
theorem r_0_firstWalking_10 : RB M_X0_firstWalking 10 (.if_icmp .ne) 15 13 := ⟨5, by decide +kernel, rfl, rfl⟩
theorem r_0_firstWalking_15 : RA M_X0_firstWalking 15 0 16 := Or.inl ⟨0, by decide +kernel, rfl, rfl⟩
theorem r_0_firstWalking_16 : RL M_X0_firstWalking 16 1 17 := Or.inl ⟨1, by decide +kernel, rfl, rfl⟩
theorem r_0_firstWalking_17 : RL M_X0_firstWalking 17 2 18 := Or.inl ⟨2, by decide +kernel, rfl, rfl⟩
theorem r_0_firstWalking_18 : RC M_X0_firstWalking 18 1 19 := ⟨⟨by decide, by decide⟩, Or.inl ⟨by decide +kernel, rfl⟩⟩
theorem r_0_firstWalking_19 : RL M_X0_firstWalking 19 4 21 := Or.inr ⟨by decide +kernel, rfl⟩
theorem r_0_firstWalking_21 : RKv M_X0_firstWalking M_X0_leastAfter 21 4 0 24 := ⟨55, by decide +kernel, wd_m0_55, ok_M_X0_leastAfter, wd_s0_leastAfter, rfl⟩
theorem r_0_firstWalking_24 : RL M_X0_firstWalking 24 3 25 := Or.inl ⟨3, by decide +kernel, rfl, rfl⟩
theorem r_0_firstWalking_25 : RB M_X0_firstWalking 25 (.if_icmp .ne) 32 28 := ⟨7, by decide +kernel, rfl, rfl⟩
theorem r_0_firstWalking_32 : RC M_X0_firstWalking 32 2 33 := ⟨⟨by decide, by decide⟩, Or.inl ⟨by decide +kernel, rfl⟩⟩
theorem r_0_firstWalking_33 : RW M_X0_firstWalking 33 .ireturn 34 1 := ⟨by decide +kernel, rfl⟩
theorem r_0_firstWalking_28 : RC M_X0_firstWalking 28 1 29 := ⟨⟨by decide, by decide⟩, Or.inl ⟨by decide +kernel, rfl⟩⟩
theorem r_0_firstWalking_29 : RB M_X0_firstWalking 29 .goto 33 32 := ⟨4, by decide +kernel, rfl, rfl⟩
theorem r_0_firstWalking_13 : RC M_X0_firstWalking 13 3 14 := ⟨⟨by decide, by decide⟩, Or.inl ⟨by decide +kernel, rfl⟩⟩
theorem r_0_firstWalking_14 : RW M_X0_firstWalking 14 .ireturn 15 1 := ⟨by decide +kernel, rfl⟩
set_option maxRecDepth 10000 in
theorem sp_X0_leastFrom {l : Launch} {w : Wo} {d : Nat} {G : PH} {P : Option PV → PH → Prop} {a b h v3 v1 v2 : Int} (htt : (0 ≤ (gA G 27 0 (0)) ∧ (gA G 27 0 (0)) ≤ 90) ∧ 0 ≤ (gA G 27 0 (1)) ∧ (gA G 27 0 (1)) ≤ 90) (hov : ∀ r p, 0 ≤ r → r < 2 → 0 ≤ p → p ≤ (gA G 27 0 (r)) → 0 ≤ (gA G 24 (r) (p)) ∧ (gA G 24 (r) (p)) ≤ 10) (ha : (0 ≤ a ∧ a ≤ (gA G 27 0 (0))) ∧ 0 ≤ b ∧ b ≤ (gA G 27 0 (1))) (hh : 1 ≤ h ∧ h ≤ 3) (hv3 : ((((1 : Int) = 0 → (gA G 26 0 (a)) ≠ 0) ∧ ((1 : Int) = 0 → (gA G 26 (1) (b)) ≠ 0) ∧ a + (1 : Int) ≤ (gA G 27 0 (0)) ∧ b + (1 : Int) ≤ (gA G 27 0 (1)) ∧ -h ≤ (gA G 24 0 (a + (1 : Int))) - (gA G 24 (1) (b + (1 : Int))) ∧ (gA G 24 0 (a + (1 : Int))) - (gA G 24 (1) (b + (1 : Int))) ≤ h) ∧ v3 = (gA G 28 0 ((a + 1) * 91 + (b + 1)))) ∨ (¬ (((1 : Int) = 0 → (gA G 26 0 (a)) ≠ 0) ∧ ((1 : Int) = 0 → (gA G 26 (1) (b)) ≠ 0) ∧ a + (1 : Int) ≤ (gA G 27 0 (0)) ∧ b + (1 : Int) ≤ (gA G 27 0 (1)) ∧ -h ≤ (gA G 24 0 (a + (1 : Int))) - (gA G 24 (1) (b + (1 : Int))) ∧ (gA G 24 0 (a + (1 : Int))) - (gA G 24 (1) (b + (1 : Int))) ≤ h) ∧ v3 = 1000000000)) (hv1 : ((((1 : Int) = 0 → (gA G 26 0 (a)) ≠ 0) ∧ ((0 : Int) = 0 → (gA G 26 (1) (b)) ≠ 0) ∧ a + (1 : Int) ≤ (gA G 27 0 (0)) ∧ b + (0 : Int) ≤ (gA G 27 0 (1)) ∧ -h ≤ (gA G 24 0 (a + (1 : Int))) - (gA G 24 (1) (b + (0 : Int))) ∧ (gA G 24 0 (a + (1 : Int))) - (gA G 24 (1) (b + (0 : Int))) ≤ h) ∧ v1 = (gA G 28 0 ((a + 1) * 91 + (b + 0)))) ∨ (¬ (((1 : Int) = 0 → (gA G 26 0 (a)) ≠ 0) ∧ ((0 : Int) = 0 → (gA G 26 (1) (b)) ≠ 0) ∧ a + (1 : Int) ≤ (gA G 27 0 (0)) ∧ b + (0 : Int) ≤ (gA G 27 0 (1)) ∧ -h ≤ (gA G 24 0 (a + (1 : Int))) - (gA G 24 (1) (b + (0 : Int))) ∧ (gA G 24 0 (a + (1 : Int))) - (gA G 24 (1) (b + (0 : Int))) ≤ h) ∧ v1 = 1000000000)) (hv2 : ((((0 : Int) = 0 → (gA G 26 0 (a)) ≠ 0) ∧ ((1 : Int) = 0 → (gA G 26 (1) (b)) ≠ 0) ∧ a + (0 : Int) ≤ (gA G 27 0 (0)) ∧ b + (1 : Int) ≤ (gA G 27 0 (1)) ∧ -h ≤ (gA G 24 0 (a + (0 : Int))) - (gA G 24 (1) (b + (1 : Int))) ∧ (gA G 24 0 (a + (0 : Int))) - (gA G 24 (1) (b + (1 : Int))) ≤ h) ∧ v2 = (gA G 28 0 ((a + 0) * 91 + (b + 1)))) ∨ (¬ (((0 : Int) = 0 → (gA G 26 0 (a)) ≠ 0) ∧ ((1 : Int) = 0 → (gA G 26 (1) (b)) ≠ 0) ∧ a + (0 : Int) ≤ (gA G 27 0 (0)) ∧ b + (1 : Int) ≤ (gA G 27 0 (1)) ∧ -h ≤ (gA G 24 0 (a + (0 : Int))) - (gA G 24 (1) (b + (1 : Int))) ∧ (gA G 24 0 (a + (0 : Int))) - (gA G 24 (1) (b + (1 : Int))) ≤ h) ∧ v2 = 1000000000)) (hvb : (0 ≤ v3 ∧ v3 ≤ 1000000000) ∧ (0 ≤ v1 ∧ v1 ≤ 1000000000) ∧ 0 ≤ v2 ∧ v2 ≤ 1000000000) (h1 : (a = (gA G 27 0 (0)) ∧ b = (gA G 27 0 (1))) → P (some (vI 0)) G) (h2 : ¬ (a = (gA G 27 0 (0)) ∧ b = (gA G 27 0 (1))) → P (some (vI (min 1000000000 (1 + min v3 (min v1 v2))))) G) : PW l w M_X0_leastFrom (d + 2) 0 [some (vR 0 (0)), some (vI (a)), some (vI (b)), some (vI (h)), none, none] [] G P := by
  refine pw_iload r_0_leastFrom_0 rfl ?_
  refine pw_aload r_0_leastFrom_1 rfl ?_
  refine pw_getR r_0_leastFrom_2 fs_0_4 (by decide) ?_
  refine pw_const r_0_leastFrom_5 ?_
  refine pw_iald r_0_leastFrom_6 sh27 (by omega) (by omega) ?_
  refine pw_icmp_ne r_0_leastFrom_7 (fun h07 => ?_) (fun h07 => ?_)
  · skip
    refine pw_aload r_0_leastFrom_22 rfl ?_
    refine pw_iload r_0_leastFrom_23 rfl ?_
    refine pw_iload r_0_leastFrom_24 rfl ?_
    refine pw_const r_0_leastFrom_25 ?_
    refine pw_iload r_0_leastFrom_26 rfl ?_
    refine pw_callV (av := [vI (a), vI (b), vI (3), vI (h)]) (st := []) (ls0 := [some (vR 0 (0)), some (vI (a)), some (vI (b)), some (vI (3)), some (vI (h)), none, none, none, none]) r_0_leastFrom_27 rfl rfl rfl (Nat.le_refl _) ?_
    refine sp_X0_leastAfter (sa := (1 : Int)) (sb := (1 : Int)) (by exact htt) (by exact hov) (by exact ha) (by exact hh) (by omega) ?_ ?_
    · skip
      intro q1
      have ev3 : v3 = 1000000000 := by rcases hv3 with z | z; exact absurd z.1 q1; exact z.2
      refine pw_istore (ls' := [some (vR 0 (0)), some (vI (a)), some (vI (b)), some (vI (h)), some (vI (1000000000)), none]) r_0_leastFrom_30 rfl rfl ?_
      refine pw_aload r_0_leastFrom_32 rfl ?_
      refine pw_iload r_0_leastFrom_33 rfl ?_
      refine pw_iload r_0_leastFrom_34 rfl ?_
      refine pw_const r_0_leastFrom_35 ?_
      refine pw_iload r_0_leastFrom_36 rfl ?_
      refine pw_callV (av := [vI (a), vI (b), vI (1), vI (h)]) (st := []) (ls0 := [some (vR 0 (0)), some (vI (a)), some (vI (b)), some (vI (1)), some (vI (h)), none, none, none, none]) r_0_leastFrom_37 rfl rfl rfl (Nat.le_refl _) ?_
      refine sp_X0_leastAfter (sa := (1 : Int)) (sb := (0 : Int)) (by exact htt) (by exact hov) (by exact ha) (by exact hh) (by omega) ?_ ?_
      · skip
        intro q1
        have ev1 : v1 = 1000000000 := by rcases hv1 with z | z; exact absurd z.1 q1; exact z.2
        refine pw_aload r_0_leastFrom_40 rfl ?_
        refine pw_iload r_0_leastFrom_41 rfl ?_
        refine pw_iload r_0_leastFrom_42 rfl ?_
        refine pw_const r_0_leastFrom_43 ?_
        refine pw_iload r_0_leastFrom_44 rfl ?_
        refine pw_callV (av := [vI (a), vI (b), vI (2), vI (h)]) (st := [vI (1000000000)]) (ls0 := [some (vR 0 (0)), some (vI (a)), some (vI (b)), some (vI (2)), some (vI (h)), none, none, none, none]) r_0_leastFrom_45 rfl rfl rfl (Nat.le_refl _) ?_
        refine sp_X0_leastAfter (sa := (0 : Int)) (sb := (1 : Int)) (by exact htt) (by exact hov) (by exact ha) (by exact hh) (by omega) ?_ ?_
        · skip
          intro q1
          have ev2 : v2 = 1000000000 := by rcases hv2 with z | z; exact absurd z.1 q1; exact z.2
          refine pw_mmin r_0_leastFrom_48 rfl (Nat.le_of_ble_eq_true rfl) (Nat.le_refl _) ?_
          refine pw_istore (ls' := [some (vR 0 (0)), some (vI (a)), some (vI (b)), some (vI (h)), some (vI (1000000000)), some (vI (min 1000000000 1000000000))]) r_0_leastFrom_51 rfl rfl ?_
          refine pw_const r_0_leastFrom_53 ?_
          refine pw_const r_0_leastFrom_55 ?_
          refine pw_iload r_0_leastFrom_56 rfl ?_
          refine pw_iload r_0_leastFrom_58 rfl ?_
          refine pw_mmin r_0_leastFrom_60 rfl (Nat.le_of_ble_eq_true rfl) (Nat.le_refl _) ?_
          refine pw_iadd r_0_leastFrom_63 (by omega) ?_
          refine pw_mmin r_0_leastFrom_64 rfl (Nat.le_of_ble_eq_true rfl) (Nat.le_refl _) ?_
          refine pw_iret r_0_leastFrom_67 rfl (Nat.le_refl _) ⟨rfl, ?_⟩
          first | exact h1 (by omega) | exact pe (h2 (by omega)) (by omega)
        · skip
          intro q1
          have ev2 : v2 = (gA G 28 0 ((a + 0) * 91 + (b + 1))) := by rcases hv2 with z | z; exact z.2; exact absurd q1 z.1
          refine pw_mmin r_0_leastFrom_48 rfl (Nat.le_of_ble_eq_true rfl) (Nat.le_refl _) ?_
          refine pw_istore (ls' := [some (vR 0 (0)), some (vI (a)), some (vI (b)), some (vI (h)), some (vI (1000000000)), some (vI (min 1000000000 (gA G 28 0 ((a + (0 : Int)) * 91 + (b + (1 : Int))))))]) r_0_leastFrom_51 rfl rfl ?_
          refine pw_const r_0_leastFrom_53 ?_
          refine pw_const r_0_leastFrom_55 ?_
          refine pw_iload r_0_leastFrom_56 rfl ?_
          refine pw_iload r_0_leastFrom_58 rfl ?_
          refine pw_mmin r_0_leastFrom_60 rfl (Nat.le_of_ble_eq_true rfl) (Nat.le_refl _) ?_
          refine pw_iadd r_0_leastFrom_63 (by omega) ?_
          refine pw_mmin r_0_leastFrom_64 rfl (Nat.le_of_ble_eq_true rfl) (Nat.le_refl _) ?_
          refine pw_iret r_0_leastFrom_67 rfl (Nat.le_refl _) ⟨rfl, ?_⟩
          first | exact h1 (by omega) | exact pe (h2 (by omega)) (by omega)
      · skip
        intro q1
        have ev1 : v1 = (gA G 28 0 ((a + 1) * 91 + (b + 0))) := by rcases hv1 with z | z; exact z.2; exact absurd q1 z.1
        refine pw_aload r_0_leastFrom_40 rfl ?_
        refine pw_iload r_0_leastFrom_41 rfl ?_
        refine pw_iload r_0_leastFrom_42 rfl ?_
        refine pw_const r_0_leastFrom_43 ?_
        refine pw_iload r_0_leastFrom_44 rfl ?_
        refine pw_callV (av := [vI (a), vI (b), vI (2), vI (h)]) (st := [vI (gA G 28 0 ((a + (1 : Int)) * 91 + (b + (0 : Int))))]) (ls0 := [some (vR 0 (0)), some (vI (a)), some (vI (b)), some (vI (2)), some (vI (h)), none, none, none, none]) r_0_leastFrom_45 rfl rfl rfl (Nat.le_refl _) ?_
        refine sp_X0_leastAfter (sa := (0 : Int)) (sb := (1 : Int)) (by exact htt) (by exact hov) (by exact ha) (by exact hh) (by omega) ?_ ?_
        · skip
          intro q1
          have ev2 : v2 = 1000000000 := by rcases hv2 with z | z; exact absurd z.1 q1; exact z.2
          refine pw_mmin r_0_leastFrom_48 rfl (Nat.le_of_ble_eq_true rfl) (Nat.le_refl _) ?_
          refine pw_istore (ls' := [some (vR 0 (0)), some (vI (a)), some (vI (b)), some (vI (h)), some (vI (1000000000)), some (vI (min (gA G 28 0 ((a + (1 : Int)) * 91 + (b + (0 : Int)))) 1000000000))]) r_0_leastFrom_51 rfl rfl ?_
          refine pw_const r_0_leastFrom_53 ?_
          refine pw_const r_0_leastFrom_55 ?_
          refine pw_iload r_0_leastFrom_56 rfl ?_
          refine pw_iload r_0_leastFrom_58 rfl ?_
          refine pw_mmin r_0_leastFrom_60 rfl (Nat.le_of_ble_eq_true rfl) (Nat.le_refl _) ?_
          refine pw_iadd r_0_leastFrom_63 (by omega) ?_
          refine pw_mmin r_0_leastFrom_64 rfl (Nat.le_of_ble_eq_true rfl) (Nat.le_refl _) ?_
          refine pw_iret r_0_leastFrom_67 rfl (Nat.le_refl _) ⟨rfl, ?_⟩
          first | exact h1 (by omega) | exact pe (h2 (by omega)) (by omega)
        · skip
          intro q1
          have ev2 : v2 = (gA G 28 0 ((a + 0) * 91 + (b + 1))) := by rcases hv2 with z | z; exact z.2; exact absurd q1 z.1
          refine pw_mmin r_0_leastFrom_48 rfl (Nat.le_of_ble_eq_true rfl) (Nat.le_refl _) ?_
          refine pw_istore (ls' := [some (vR 0 (0)), some (vI (a)), some (vI (b)), some (vI (h)), some (vI (1000000000)), some (vI (min (gA G 28 0 ((a + (1 : Int)) * 91 + (b + (0 : Int)))) (gA G 28 0 ((a + (0 : Int)) * 91 + (b + (1 : Int))))))]) r_0_leastFrom_51 rfl rfl ?_
          refine pw_const r_0_leastFrom_53 ?_
          refine pw_const r_0_leastFrom_55 ?_
          refine pw_iload r_0_leastFrom_56 rfl ?_
          refine pw_iload r_0_leastFrom_58 rfl ?_
          refine pw_mmin r_0_leastFrom_60 rfl (Nat.le_of_ble_eq_true rfl) (Nat.le_refl _) ?_
          refine pw_iadd r_0_leastFrom_63 (by omega) ?_
          refine pw_mmin r_0_leastFrom_64 rfl (Nat.le_of_ble_eq_true rfl) (Nat.le_refl _) ?_
          refine pw_iret r_0_leastFrom_67 rfl (Nat.le_refl _) ⟨rfl, ?_⟩
          first | exact h1 (by omega) | exact pe (h2 (by omega)) (by omega)
    · skip
      intro q1
      have ev3 : v3 = (gA G 28 0 ((a + 1) * 91 + (b + 1))) := by rcases hv3 with z | z; exact z.2; exact absurd q1 z.1
      refine pw_istore (ls' := [some (vR 0 (0)), some (vI (a)), some (vI (b)), some (vI (h)), some (vI (gA G 28 0 ((a + (1 : Int)) * 91 + (b + (1 : Int))))), none]) r_0_leastFrom_30 rfl rfl ?_
      refine pw_aload r_0_leastFrom_32 rfl ?_
      refine pw_iload r_0_leastFrom_33 rfl ?_
      refine pw_iload r_0_leastFrom_34 rfl ?_
      refine pw_const r_0_leastFrom_35 ?_
      refine pw_iload r_0_leastFrom_36 rfl ?_
      refine pw_callV (av := [vI (a), vI (b), vI (1), vI (h)]) (st := []) (ls0 := [some (vR 0 (0)), some (vI (a)), some (vI (b)), some (vI (1)), some (vI (h)), none, none, none, none]) r_0_leastFrom_37 rfl rfl rfl (Nat.le_refl _) ?_
      refine sp_X0_leastAfter (sa := (1 : Int)) (sb := (0 : Int)) (by exact htt) (by exact hov) (by exact ha) (by exact hh) (by omega) ?_ ?_
      · skip
        intro q1
        have ev1 : v1 = 1000000000 := by rcases hv1 with z | z; exact absurd z.1 q1; exact z.2
        refine pw_aload r_0_leastFrom_40 rfl ?_
        refine pw_iload r_0_leastFrom_41 rfl ?_
        refine pw_iload r_0_leastFrom_42 rfl ?_
        refine pw_const r_0_leastFrom_43 ?_
        refine pw_iload r_0_leastFrom_44 rfl ?_
        refine pw_callV (av := [vI (a), vI (b), vI (2), vI (h)]) (st := [vI (1000000000)]) (ls0 := [some (vR 0 (0)), some (vI (a)), some (vI (b)), some (vI (2)), some (vI (h)), none, none, none, none]) r_0_leastFrom_45 rfl rfl rfl (Nat.le_refl _) ?_
        refine sp_X0_leastAfter (sa := (0 : Int)) (sb := (1 : Int)) (by exact htt) (by exact hov) (by exact ha) (by exact hh) (by omega) ?_ ?_
        · skip
          intro q1
          have ev2 : v2 = 1000000000 := by rcases hv2 with z | z; exact absurd z.1 q1; exact z.2
          refine pw_mmin r_0_leastFrom_48 rfl (Nat.le_of_ble_eq_true rfl) (Nat.le_refl _) ?_
          refine pw_istore (ls' := [some (vR 0 (0)), some (vI (a)), some (vI (b)), some (vI (h)), some (vI (gA G 28 0 ((a + (1 : Int)) * 91 + (b + (1 : Int))))), some (vI (min 1000000000 1000000000))]) r_0_leastFrom_51 rfl rfl ?_
          refine pw_const r_0_leastFrom_53 ?_
          refine pw_const r_0_leastFrom_55 ?_
          refine pw_iload r_0_leastFrom_56 rfl ?_
          refine pw_iload r_0_leastFrom_58 rfl ?_
          refine pw_mmin r_0_leastFrom_60 rfl (Nat.le_of_ble_eq_true rfl) (Nat.le_refl _) ?_
          refine pw_iadd r_0_leastFrom_63 (by omega) ?_
          refine pw_mmin r_0_leastFrom_64 rfl (Nat.le_of_ble_eq_true rfl) (Nat.le_refl _) ?_
          refine pw_iret r_0_leastFrom_67 rfl (Nat.le_refl _) ⟨rfl, ?_⟩
          first | exact h1 (by omega) | exact pe (h2 (by omega)) (by omega)
        · skip
          intro q1
          have ev2 : v2 = (gA G 28 0 ((a + 0) * 91 + (b + 1))) := by rcases hv2 with z | z; exact z.2; exact absurd q1 z.1
          refine pw_mmin r_0_leastFrom_48 rfl (Nat.le_of_ble_eq_true rfl) (Nat.le_refl _) ?_
          refine pw_istore (ls' := [some (vR 0 (0)), some (vI (a)), some (vI (b)), some (vI (h)), some (vI (gA G 28 0 ((a + (1 : Int)) * 91 + (b + (1 : Int))))), some (vI (min 1000000000 (gA G 28 0 ((a + (0 : Int)) * 91 + (b + (1 : Int))))))]) r_0_leastFrom_51 rfl rfl ?_
          refine pw_const r_0_leastFrom_53 ?_
          refine pw_const r_0_leastFrom_55 ?_
          refine pw_iload r_0_leastFrom_56 rfl ?_
          refine pw_iload r_0_leastFrom_58 rfl ?_
          refine pw_mmin r_0_leastFrom_60 rfl (Nat.le_of_ble_eq_true rfl) (Nat.le_refl _) ?_
          refine pw_iadd r_0_leastFrom_63 (by omega) ?_
          refine pw_mmin r_0_leastFrom_64 rfl (Nat.le_of_ble_eq_true rfl) (Nat.le_refl _) ?_
          refine pw_iret r_0_leastFrom_67 rfl (Nat.le_refl _) ⟨rfl, ?_⟩
          first | exact h1 (by omega) | exact pe (h2 (by omega)) (by omega)
      · skip
        intro q1
        have ev1 : v1 = (gA G 28 0 ((a + 1) * 91 + (b + 0))) := by rcases hv1 with z | z; exact z.2; exact absurd q1 z.1
        refine pw_aload r_0_leastFrom_40 rfl ?_
        refine pw_iload r_0_leastFrom_41 rfl ?_
        refine pw_iload r_0_leastFrom_42 rfl ?_
        refine pw_const r_0_leastFrom_43 ?_
        refine pw_iload r_0_leastFrom_44 rfl ?_
        refine pw_callV (av := [vI (a), vI (b), vI (2), vI (h)]) (st := [vI (gA G 28 0 ((a + (1 : Int)) * 91 + (b + (0 : Int))))]) (ls0 := [some (vR 0 (0)), some (vI (a)), some (vI (b)), some (vI (2)), some (vI (h)), none, none, none, none]) r_0_leastFrom_45 rfl rfl rfl (Nat.le_refl _) ?_
        refine sp_X0_leastAfter (sa := (0 : Int)) (sb := (1 : Int)) (by exact htt) (by exact hov) (by exact ha) (by exact hh) (by omega) ?_ ?_
        · skip
          intro q1
          have ev2 : v2 = 1000000000 := by rcases hv2 with z | z; exact absurd z.1 q1; exact z.2
          refine pw_mmin r_0_leastFrom_48 rfl (Nat.le_of_ble_eq_true rfl) (Nat.le_refl _) ?_
          refine pw_istore (ls' := [some (vR 0 (0)), some (vI (a)), some (vI (b)), some (vI (h)), some (vI (gA G 28 0 ((a + (1 : Int)) * 91 + (b + (1 : Int))))), some (vI (min (gA G 28 0 ((a + (1 : Int)) * 91 + (b + (0 : Int)))) 1000000000))]) r_0_leastFrom_51 rfl rfl ?_
          refine pw_const r_0_leastFrom_53 ?_
          refine pw_const r_0_leastFrom_55 ?_
          refine pw_iload r_0_leastFrom_56 rfl ?_
          refine pw_iload r_0_leastFrom_58 rfl ?_
          refine pw_mmin r_0_leastFrom_60 rfl (Nat.le_of_ble_eq_true rfl) (Nat.le_refl _) ?_
          refine pw_iadd r_0_leastFrom_63 (by omega) ?_
          refine pw_mmin r_0_leastFrom_64 rfl (Nat.le_of_ble_eq_true rfl) (Nat.le_refl _) ?_
          refine pw_iret r_0_leastFrom_67 rfl (Nat.le_refl _) ⟨rfl, ?_⟩
          first | exact h1 (by omega) | exact pe (h2 (by omega)) (by omega)
        · skip
          intro q1
          have ev2 : v2 = (gA G 28 0 ((a + 0) * 91 + (b + 1))) := by rcases hv2 with z | z; exact z.2; exact absurd q1 z.1
          refine pw_mmin r_0_leastFrom_48 rfl (Nat.le_of_ble_eq_true rfl) (Nat.le_refl _) ?_
          refine pw_istore (ls' := [some (vR 0 (0)), some (vI (a)), some (vI (b)), some (vI (h)), some (vI (gA G 28 0 ((a + (1 : Int)) * 91 + (b + (1 : Int))))), some (vI (min (gA G 28 0 ((a + (1 : Int)) * 91 + (b + (0 : Int)))) (gA G 28 0 ((a + (0 : Int)) * 91 + (b + (1 : Int))))))]) r_0_leastFrom_51 rfl rfl ?_
          refine pw_const r_0_leastFrom_53 ?_
          refine pw_const r_0_leastFrom_55 ?_
          refine pw_iload r_0_leastFrom_56 rfl ?_
          refine pw_iload r_0_leastFrom_58 rfl ?_
          refine pw_mmin r_0_leastFrom_60 rfl (Nat.le_of_ble_eq_true rfl) (Nat.le_refl _) ?_
          refine pw_iadd r_0_leastFrom_63 (by omega) ?_
          refine pw_mmin r_0_leastFrom_64 rfl (Nat.le_of_ble_eq_true rfl) (Nat.le_refl _) ?_
          refine pw_iret r_0_leastFrom_67 rfl (Nat.le_refl _) ⟨rfl, ?_⟩
          first | exact h1 (by omega) | exact pe (h2 (by omega)) (by omega)
  · skip
    refine pw_iload r_0_leastFrom_10 rfl ?_
    refine pw_aload r_0_leastFrom_11 rfl ?_
    refine pw_getR r_0_leastFrom_12 fs_0_4 (by decide) ?_
    refine pw_const r_0_leastFrom_15 ?_
    refine pw_iald r_0_leastFrom_16 sh27 (by omega) (by omega) ?_
    refine pw_icmp_ne r_0_leastFrom_17 (fun h17 => ?_) (fun h17 => ?_)
    · skip
      refine pw_aload r_0_leastFrom_22 rfl ?_
      refine pw_iload r_0_leastFrom_23 rfl ?_
      refine pw_iload r_0_leastFrom_24 rfl ?_
      refine pw_const r_0_leastFrom_25 ?_
      refine pw_iload r_0_leastFrom_26 rfl ?_
      refine pw_callV (av := [vI (a), vI (b), vI (3), vI (h)]) (st := []) (ls0 := [some (vR 0 (0)), some (vI (a)), some (vI (b)), some (vI (3)), some (vI (h)), none, none, none, none]) r_0_leastFrom_27 rfl rfl rfl (Nat.le_refl _) ?_
      refine sp_X0_leastAfter (sa := (1 : Int)) (sb := (1 : Int)) (by exact htt) (by exact hov) (by exact ha) (by exact hh) (by omega) ?_ ?_
      · skip
        intro q1
        have ev3 : v3 = 1000000000 := by rcases hv3 with z | z; exact absurd z.1 q1; exact z.2
        refine pw_istore (ls' := [some (vR 0 (0)), some (vI (a)), some (vI (b)), some (vI (h)), some (vI (1000000000)), none]) r_0_leastFrom_30 rfl rfl ?_
        refine pw_aload r_0_leastFrom_32 rfl ?_
        refine pw_iload r_0_leastFrom_33 rfl ?_
        refine pw_iload r_0_leastFrom_34 rfl ?_
        refine pw_const r_0_leastFrom_35 ?_
        refine pw_iload r_0_leastFrom_36 rfl ?_
        refine pw_callV (av := [vI (a), vI (b), vI (1), vI (h)]) (st := []) (ls0 := [some (vR 0 (0)), some (vI (a)), some (vI (b)), some (vI (1)), some (vI (h)), none, none, none, none]) r_0_leastFrom_37 rfl rfl rfl (Nat.le_refl _) ?_
        refine sp_X0_leastAfter (sa := (1 : Int)) (sb := (0 : Int)) (by exact htt) (by exact hov) (by exact ha) (by exact hh) (by omega) ?_ ?_
        · skip
          intro q1
          have ev1 : v1 = 1000000000 := by rcases hv1 with z | z; exact absurd z.1 q1; exact z.2
          refine pw_aload r_0_leastFrom_40 rfl ?_
          refine pw_iload r_0_leastFrom_41 rfl ?_
          refine pw_iload r_0_leastFrom_42 rfl ?_
          refine pw_const r_0_leastFrom_43 ?_
          refine pw_iload r_0_leastFrom_44 rfl ?_
          refine pw_callV (av := [vI (a), vI (b), vI (2), vI (h)]) (st := [vI (1000000000)]) (ls0 := [some (vR 0 (0)), some (vI (a)), some (vI (b)), some (vI (2)), some (vI (h)), none, none, none, none]) r_0_leastFrom_45 rfl rfl rfl (Nat.le_refl _) ?_
          refine sp_X0_leastAfter (sa := (0 : Int)) (sb := (1 : Int)) (by exact htt) (by exact hov) (by exact ha) (by exact hh) (by omega) ?_ ?_
          · skip
            intro q1
            have ev2 : v2 = 1000000000 := by rcases hv2 with z | z; exact absurd z.1 q1; exact z.2
            refine pw_mmin r_0_leastFrom_48 rfl (Nat.le_of_ble_eq_true rfl) (Nat.le_refl _) ?_
            refine pw_istore (ls' := [some (vR 0 (0)), some (vI (a)), some (vI (b)), some (vI (h)), some (vI (1000000000)), some (vI (min 1000000000 1000000000))]) r_0_leastFrom_51 rfl rfl ?_
            refine pw_const r_0_leastFrom_53 ?_
            refine pw_const r_0_leastFrom_55 ?_
            refine pw_iload r_0_leastFrom_56 rfl ?_
            refine pw_iload r_0_leastFrom_58 rfl ?_
            refine pw_mmin r_0_leastFrom_60 rfl (Nat.le_of_ble_eq_true rfl) (Nat.le_refl _) ?_
            refine pw_iadd r_0_leastFrom_63 (by omega) ?_
            refine pw_mmin r_0_leastFrom_64 rfl (Nat.le_of_ble_eq_true rfl) (Nat.le_refl _) ?_
            refine pw_iret r_0_leastFrom_67 rfl (Nat.le_refl _) ⟨rfl, ?_⟩
            first | exact h1 (by omega) | exact pe (h2 (by omega)) (by omega)
          · skip
            intro q1
            have ev2 : v2 = (gA G 28 0 ((a + 0) * 91 + (b + 1))) := by rcases hv2 with z | z; exact z.2; exact absurd q1 z.1
            refine pw_mmin r_0_leastFrom_48 rfl (Nat.le_of_ble_eq_true rfl) (Nat.le_refl _) ?_
            refine pw_istore (ls' := [some (vR 0 (0)), some (vI (a)), some (vI (b)), some (vI (h)), some (vI (1000000000)), some (vI (min 1000000000 (gA G 28 0 ((a + (0 : Int)) * 91 + (b + (1 : Int))))))]) r_0_leastFrom_51 rfl rfl ?_
            refine pw_const r_0_leastFrom_53 ?_
            refine pw_const r_0_leastFrom_55 ?_
            refine pw_iload r_0_leastFrom_56 rfl ?_
            refine pw_iload r_0_leastFrom_58 rfl ?_
            refine pw_mmin r_0_leastFrom_60 rfl (Nat.le_of_ble_eq_true rfl) (Nat.le_refl _) ?_
            refine pw_iadd r_0_leastFrom_63 (by omega) ?_
            refine pw_mmin r_0_leastFrom_64 rfl (Nat.le_of_ble_eq_true rfl) (Nat.le_refl _) ?_
            refine pw_iret r_0_leastFrom_67 rfl (Nat.le_refl _) ⟨rfl, ?_⟩
            first | exact h1 (by omega) | exact pe (h2 (by omega)) (by omega)
        · skip
          intro q1
          have ev1 : v1 = (gA G 28 0 ((a + 1) * 91 + (b + 0))) := by rcases hv1 with z | z; exact z.2; exact absurd q1 z.1
          refine pw_aload r_0_leastFrom_40 rfl ?_
          refine pw_iload r_0_leastFrom_41 rfl ?_
          refine pw_iload r_0_leastFrom_42 rfl ?_
          refine pw_const r_0_leastFrom_43 ?_
          refine pw_iload r_0_leastFrom_44 rfl ?_
          refine pw_callV (av := [vI (a), vI (b), vI (2), vI (h)]) (st := [vI (gA G 28 0 ((a + (1 : Int)) * 91 + (b + (0 : Int))))]) (ls0 := [some (vR 0 (0)), some (vI (a)), some (vI (b)), some (vI (2)), some (vI (h)), none, none, none, none]) r_0_leastFrom_45 rfl rfl rfl (Nat.le_refl _) ?_
          refine sp_X0_leastAfter (sa := (0 : Int)) (sb := (1 : Int)) (by exact htt) (by exact hov) (by exact ha) (by exact hh) (by omega) ?_ ?_
          · skip
            intro q1
            have ev2 : v2 = 1000000000 := by rcases hv2 with z | z; exact absurd z.1 q1; exact z.2
            refine pw_mmin r_0_leastFrom_48 rfl (Nat.le_of_ble_eq_true rfl) (Nat.le_refl _) ?_
            refine pw_istore (ls' := [some (vR 0 (0)), some (vI (a)), some (vI (b)), some (vI (h)), some (vI (1000000000)), some (vI (min (gA G 28 0 ((a + (1 : Int)) * 91 + (b + (0 : Int)))) 1000000000))]) r_0_leastFrom_51 rfl rfl ?_
            refine pw_const r_0_leastFrom_53 ?_
            refine pw_const r_0_leastFrom_55 ?_
            refine pw_iload r_0_leastFrom_56 rfl ?_
            refine pw_iload r_0_leastFrom_58 rfl ?_
            refine pw_mmin r_0_leastFrom_60 rfl (Nat.le_of_ble_eq_true rfl) (Nat.le_refl _) ?_
            refine pw_iadd r_0_leastFrom_63 (by omega) ?_
            refine pw_mmin r_0_leastFrom_64 rfl (Nat.le_of_ble_eq_true rfl) (Nat.le_refl _) ?_
            refine pw_iret r_0_leastFrom_67 rfl (Nat.le_refl _) ⟨rfl, ?_⟩
            first | exact h1 (by omega) | exact pe (h2 (by omega)) (by omega)
          · skip
            intro q1
            have ev2 : v2 = (gA G 28 0 ((a + 0) * 91 + (b + 1))) := by rcases hv2 with z | z; exact z.2; exact absurd q1 z.1
            refine pw_mmin r_0_leastFrom_48 rfl (Nat.le_of_ble_eq_true rfl) (Nat.le_refl _) ?_
            refine pw_istore (ls' := [some (vR 0 (0)), some (vI (a)), some (vI (b)), some (vI (h)), some (vI (1000000000)), some (vI (min (gA G 28 0 ((a + (1 : Int)) * 91 + (b + (0 : Int)))) (gA G 28 0 ((a + (0 : Int)) * 91 + (b + (1 : Int))))))]) r_0_leastFrom_51 rfl rfl ?_
            refine pw_const r_0_leastFrom_53 ?_
            refine pw_const r_0_leastFrom_55 ?_
            refine pw_iload r_0_leastFrom_56 rfl ?_
            refine pw_iload r_0_leastFrom_58 rfl ?_
            refine pw_mmin r_0_leastFrom_60 rfl (Nat.le_of_ble_eq_true rfl) (Nat.le_refl _) ?_
            refine pw_iadd r_0_leastFrom_63 (by omega) ?_
            refine pw_mmin r_0_leastFrom_64 rfl (Nat.le_of_ble_eq_true rfl) (Nat.le_refl _) ?_
            refine pw_iret r_0_leastFrom_67 rfl (Nat.le_refl _) ⟨rfl, ?_⟩
            first | exact h1 (by omega) | exact pe (h2 (by omega)) (by omega)
      · skip
        intro q1
        have ev3 : v3 = (gA G 28 0 ((a + 1) * 91 + (b + 1))) := by rcases hv3 with z | z; exact z.2; exact absurd q1 z.1
        refine pw_istore (ls' := [some (vR 0 (0)), some (vI (a)), some (vI (b)), some (vI (h)), some (vI (gA G 28 0 ((a + (1 : Int)) * 91 + (b + (1 : Int))))), none]) r_0_leastFrom_30 rfl rfl ?_
        refine pw_aload r_0_leastFrom_32 rfl ?_
        refine pw_iload r_0_leastFrom_33 rfl ?_
        refine pw_iload r_0_leastFrom_34 rfl ?_
        refine pw_const r_0_leastFrom_35 ?_
        refine pw_iload r_0_leastFrom_36 rfl ?_
        refine pw_callV (av := [vI (a), vI (b), vI (1), vI (h)]) (st := []) (ls0 := [some (vR 0 (0)), some (vI (a)), some (vI (b)), some (vI (1)), some (vI (h)), none, none, none, none]) r_0_leastFrom_37 rfl rfl rfl (Nat.le_refl _) ?_
        refine sp_X0_leastAfter (sa := (1 : Int)) (sb := (0 : Int)) (by exact htt) (by exact hov) (by exact ha) (by exact hh) (by omega) ?_ ?_
        · skip
          intro q1
          have ev1 : v1 = 1000000000 := by rcases hv1 with z | z; exact absurd z.1 q1; exact z.2
          refine pw_aload r_0_leastFrom_40 rfl ?_
          refine pw_iload r_0_leastFrom_41 rfl ?_
          refine pw_iload r_0_leastFrom_42 rfl ?_
          refine pw_const r_0_leastFrom_43 ?_
          refine pw_iload r_0_leastFrom_44 rfl ?_
          refine pw_callV (av := [vI (a), vI (b), vI (2), vI (h)]) (st := [vI (1000000000)]) (ls0 := [some (vR 0 (0)), some (vI (a)), some (vI (b)), some (vI (2)), some (vI (h)), none, none, none, none]) r_0_leastFrom_45 rfl rfl rfl (Nat.le_refl _) ?_
          refine sp_X0_leastAfter (sa := (0 : Int)) (sb := (1 : Int)) (by exact htt) (by exact hov) (by exact ha) (by exact hh) (by omega) ?_ ?_
          · skip
            intro q1
            have ev2 : v2 = 1000000000 := by rcases hv2 with z | z; exact absurd z.1 q1; exact z.2
            refine pw_mmin r_0_leastFrom_48 rfl (Nat.le_of_ble_eq_true rfl) (Nat.le_refl _) ?_
            refine pw_istore (ls' := [some (vR 0 (0)), some (vI (a)), some (vI (b)), some (vI (h)), some (vI (gA G 28 0 ((a + (1 : Int)) * 91 + (b + (1 : Int))))), some (vI (min 1000000000 1000000000))]) r_0_leastFrom_51 rfl rfl ?_
            refine pw_const r_0_leastFrom_53 ?_
            refine pw_const r_0_leastFrom_55 ?_
            refine pw_iload r_0_leastFrom_56 rfl ?_
            refine pw_iload r_0_leastFrom_58 rfl ?_
            refine pw_mmin r_0_leastFrom_60 rfl (Nat.le_of_ble_eq_true rfl) (Nat.le_refl _) ?_
            refine pw_iadd r_0_leastFrom_63 (by omega) ?_
            refine pw_mmin r_0_leastFrom_64 rfl (Nat.le_of_ble_eq_true rfl) (Nat.le_refl _) ?_
            refine pw_iret r_0_leastFrom_67 rfl (Nat.le_refl _) ⟨rfl, ?_⟩
            first | exact h1 (by omega) | exact pe (h2 (by omega)) (by omega)
          · skip
            intro q1
            have ev2 : v2 = (gA G 28 0 ((a + 0) * 91 + (b + 1))) := by rcases hv2 with z | z; exact z.2; exact absurd q1 z.1
            refine pw_mmin r_0_leastFrom_48 rfl (Nat.le_of_ble_eq_true rfl) (Nat.le_refl _) ?_
            refine pw_istore (ls' := [some (vR 0 (0)), some (vI (a)), some (vI (b)), some (vI (h)), some (vI (gA G 28 0 ((a + (1 : Int)) * 91 + (b + (1 : Int))))), some (vI (min 1000000000 (gA G 28 0 ((a + (0 : Int)) * 91 + (b + (1 : Int))))))]) r_0_leastFrom_51 rfl rfl ?_
            refine pw_const r_0_leastFrom_53 ?_
            refine pw_const r_0_leastFrom_55 ?_
            refine pw_iload r_0_leastFrom_56 rfl ?_
            refine pw_iload r_0_leastFrom_58 rfl ?_
            refine pw_mmin r_0_leastFrom_60 rfl (Nat.le_of_ble_eq_true rfl) (Nat.le_refl _) ?_
            refine pw_iadd r_0_leastFrom_63 (by omega) ?_
            refine pw_mmin r_0_leastFrom_64 rfl (Nat.le_of_ble_eq_true rfl) (Nat.le_refl _) ?_
            refine pw_iret r_0_leastFrom_67 rfl (Nat.le_refl _) ⟨rfl, ?_⟩
            first | exact h1 (by omega) | exact pe (h2 (by omega)) (by omega)
        · skip
          intro q1
          have ev1 : v1 = (gA G 28 0 ((a + 1) * 91 + (b + 0))) := by rcases hv1 with z | z; exact z.2; exact absurd q1 z.1
          refine pw_aload r_0_leastFrom_40 rfl ?_
          refine pw_iload r_0_leastFrom_41 rfl ?_
          refine pw_iload r_0_leastFrom_42 rfl ?_
          refine pw_const r_0_leastFrom_43 ?_
          refine pw_iload r_0_leastFrom_44 rfl ?_
          refine pw_callV (av := [vI (a), vI (b), vI (2), vI (h)]) (st := [vI (gA G 28 0 ((a + (1 : Int)) * 91 + (b + (0 : Int))))]) (ls0 := [some (vR 0 (0)), some (vI (a)), some (vI (b)), some (vI (2)), some (vI (h)), none, none, none, none]) r_0_leastFrom_45 rfl rfl rfl (Nat.le_refl _) ?_
          refine sp_X0_leastAfter (sa := (0 : Int)) (sb := (1 : Int)) (by exact htt) (by exact hov) (by exact ha) (by exact hh) (by omega) ?_ ?_
          · skip
            intro q1
            have ev2 : v2 = 1000000000 := by rcases hv2 with z | z; exact absurd z.1 q1; exact z.2
            refine pw_mmin r_0_leastFrom_48 rfl (Nat.le_of_ble_eq_true rfl) (Nat.le_refl _) ?_
            refine pw_istore (ls' := [some (vR 0 (0)), some (vI (a)), some (vI (b)), some (vI (h)), some (vI (gA G 28 0 ((a + (1 : Int)) * 91 + (b + (1 : Int))))), some (vI (min (gA G 28 0 ((a + (1 : Int)) * 91 + (b + (0 : Int)))) 1000000000))]) r_0_leastFrom_51 rfl rfl ?_
            refine pw_const r_0_leastFrom_53 ?_
            refine pw_const r_0_leastFrom_55 ?_
            refine pw_iload r_0_leastFrom_56 rfl ?_
            refine pw_iload r_0_leastFrom_58 rfl ?_
            refine pw_mmin r_0_leastFrom_60 rfl (Nat.le_of_ble_eq_true rfl) (Nat.le_refl _) ?_
            refine pw_iadd r_0_leastFrom_63 (by omega) ?_
            refine pw_mmin r_0_leastFrom_64 rfl (Nat.le_of_ble_eq_true rfl) (Nat.le_refl _) ?_
            refine pw_iret r_0_leastFrom_67 rfl (Nat.le_refl _) ⟨rfl, ?_⟩
            first | exact h1 (by omega) | exact pe (h2 (by omega)) (by omega)
          · skip
            intro q1
            have ev2 : v2 = (gA G 28 0 ((a + 0) * 91 + (b + 1))) := by rcases hv2 with z | z; exact z.2; exact absurd q1 z.1
            refine pw_mmin r_0_leastFrom_48 rfl (Nat.le_of_ble_eq_true rfl) (Nat.le_refl _) ?_
            refine pw_istore (ls' := [some (vR 0 (0)), some (vI (a)), some (vI (b)), some (vI (h)), some (vI (gA G 28 0 ((a + (1 : Int)) * 91 + (b + (1 : Int))))), some (vI (min (gA G 28 0 ((a + (1 : Int)) * 91 + (b + (0 : Int)))) (gA G 28 0 ((a + (0 : Int)) * 91 + (b + (1 : Int))))))]) r_0_leastFrom_51 rfl rfl ?_
            refine pw_const r_0_leastFrom_53 ?_
            refine pw_const r_0_leastFrom_55 ?_
            refine pw_iload r_0_leastFrom_56 rfl ?_
            refine pw_iload r_0_leastFrom_58 rfl ?_
            refine pw_mmin r_0_leastFrom_60 rfl (Nat.le_of_ble_eq_true rfl) (Nat.le_refl _) ?_
            refine pw_iadd r_0_leastFrom_63 (by omega) ?_
            refine pw_mmin r_0_leastFrom_64 rfl (Nat.le_of_ble_eq_true rfl) (Nat.le_refl _) ?_
            refine pw_iret r_0_leastFrom_67 rfl (Nat.le_refl _) ⟨rfl, ?_⟩
            first | exact h1 (by omega) | exact pe (h2 (by omega)) (by omega)
    · skip
      refine pw_const r_0_leastFrom_20 ?_
      refine pw_iret r_0_leastFrom_21 rfl (Nat.le_refl _) ⟨rfl, ?_⟩
      first | exact h1 (by omega) | exact pe (h2 (by omega)) (by omega)
set_option maxRecDepth 10000 in
theorem sp_X0_firstWalking {l : Launch} {w : Wo} {d : Nat} {G : PH} {P : Option PV → PH → Prop} {a b t h v3 v1 : Int} (htt : (0 ≤ (gA G 27 0 (0)) ∧ (gA G 27 0 (0)) ≤ 90) ∧ 0 ≤ (gA G 27 0 (1)) ∧ (gA G 27 0 (1)) ≤ 90) (hov : ∀ r p, 0 ≤ r → r < 2 → 0 ≤ p → p ≤ (gA G 27 0 (r)) → 0 ≤ (gA G 24 (r) (p)) ∧ (gA G 24 (r) (p)) ≤ 10) (ha : (0 ≤ a ∧ a ≤ (gA G 27 0 (0))) ∧ 0 ≤ b ∧ b ≤ (gA G 27 0 (1))) (hh : 1 ≤ h ∧ h ≤ 3) (hv3 : ((((1 : Int) = 0 → (gA G 26 0 (a)) ≠ 0) ∧ ((1 : Int) = 0 → (gA G 26 (1) (b)) ≠ 0) ∧ a + (1 : Int) ≤ (gA G 27 0 (0)) ∧ b + (1 : Int) ≤ (gA G 27 0 (1)) ∧ -h ≤ (gA G 24 0 (a + (1 : Int))) - (gA G 24 (1) (b + (1 : Int))) ∧ (gA G 24 0 (a + (1 : Int))) - (gA G 24 (1) (b + (1 : Int))) ≤ h) ∧ v3 = (gA G 28 0 ((a + 1) * 91 + (b + 1)))) ∨ (¬ (((1 : Int) = 0 → (gA G 26 0 (a)) ≠ 0) ∧ ((1 : Int) = 0 → (gA G 26 (1) (b)) ≠ 0) ∧ a + (1 : Int) ≤ (gA G 27 0 (0)) ∧ b + (1 : Int) ≤ (gA G 27 0 (1)) ∧ -h ≤ (gA G 24 0 (a + (1 : Int))) - (gA G 24 (1) (b + (1 : Int))) ∧ (gA G 24 0 (a + (1 : Int))) - (gA G 24 (1) (b + (1 : Int))) ≤ h) ∧ v3 = 1000000000)) (hv1 : ((((1 : Int) = 0 → (gA G 26 0 (a)) ≠ 0) ∧ ((0 : Int) = 0 → (gA G 26 (1) (b)) ≠ 0) ∧ a + (1 : Int) ≤ (gA G 27 0 (0)) ∧ b + (0 : Int) ≤ (gA G 27 0 (1)) ∧ -h ≤ (gA G 24 0 (a + (1 : Int))) - (gA G 24 (1) (b + (0 : Int))) ∧ (gA G 24 0 (a + (1 : Int))) - (gA G 24 (1) (b + (0 : Int))) ≤ h) ∧ v1 = (gA G 28 0 ((a + 1) * 91 + (b + 0)))) ∨ (¬ (((1 : Int) = 0 → (gA G 26 0 (a)) ≠ 0) ∧ ((0 : Int) = 0 → (gA G 26 (1) (b)) ≠ 0) ∧ a + (1 : Int) ≤ (gA G 27 0 (0)) ∧ b + (0 : Int) ≤ (gA G 27 0 (1)) ∧ -h ≤ (gA G 24 0 (a + (1 : Int))) - (gA G 24 (1) (b + (0 : Int))) ∧ (gA G 24 0 (a + (1 : Int))) - (gA G 24 (1) (b + (0 : Int))) ≤ h) ∧ v1 = 1000000000)) (hP : ∀ r, (v3 = t ∧ r = 3) ∨ (v3 ≠ t ∧ v1 = t ∧ r = 1) ∨ ((v3 ≠ t ∧ v1 ≠ t) ∧ r = 2) → P (some (vI r)) G) : PW l w M_X0_firstWalking (d + 2) 0 [some (vR 0 (0)), some (vI (a)), some (vI (b)), some (vI (t)), some (vI (h))] [] G P := by
  refine pw_aload r_0_firstWalking_0 rfl ?_
  refine pw_iload r_0_firstWalking_1 rfl ?_
  refine pw_iload r_0_firstWalking_2 rfl ?_
  refine pw_const r_0_firstWalking_3 ?_
  refine pw_iload r_0_firstWalking_4 rfl ?_
  refine pw_callV (av := [vI (a), vI (b), vI (3), vI (h)]) (st := []) (ls0 := [some (vR 0 (0)), some (vI (a)), some (vI (b)), some (vI (3)), some (vI (h)), none, none, none, none]) r_0_firstWalking_6 rfl rfl rfl (Nat.le_refl _) ?_
  refine sp_X0_leastAfter (sa := (1 : Int)) (sb := (1 : Int)) (by exact htt) (by exact hov) (by exact ha) (by exact hh) (by omega) ?_ ?_
  · skip
    intro q1
    have ev3 : v3 = 1000000000 := by rcases hv3 with z | z; exact absurd z.1 q1; exact z.2
    refine pw_iload r_0_firstWalking_9 rfl ?_
    refine pw_icmp_ne r_0_firstWalking_10 (fun h10 => ?_) (fun h10 => ?_)
    · skip
      refine pw_aload r_0_firstWalking_15 rfl ?_
      refine pw_iload r_0_firstWalking_16 rfl ?_
      refine pw_iload r_0_firstWalking_17 rfl ?_
      refine pw_const r_0_firstWalking_18 ?_
      refine pw_iload r_0_firstWalking_19 rfl ?_
      refine pw_callV (av := [vI (a), vI (b), vI (1), vI (h)]) (st := []) (ls0 := [some (vR 0 (0)), some (vI (a)), some (vI (b)), some (vI (1)), some (vI (h)), none, none, none, none]) r_0_firstWalking_21 rfl rfl rfl (Nat.le_refl _) ?_
      refine sp_X0_leastAfter (sa := (1 : Int)) (sb := (0 : Int)) (by exact htt) (by exact hov) (by exact ha) (by exact hh) (by omega) ?_ ?_
      · skip
        intro q1
        have ev1 : v1 = 1000000000 := by rcases hv1 with z | z; exact absurd z.1 q1; exact z.2
        refine pw_iload r_0_firstWalking_24 rfl ?_
        refine pw_icmp_ne r_0_firstWalking_25 (fun h25 => ?_) (fun h25 => ?_)
        · skip
          refine pw_const r_0_firstWalking_32 ?_
          refine pw_iret r_0_firstWalking_33 rfl (Nat.le_refl _) ⟨rfl, ?_⟩
          exact hP _ (by omega)
        · skip
          refine pw_const r_0_firstWalking_28 ?_
          refine pw_goto r_0_firstWalking_29 ?_
          refine pw_iret r_0_firstWalking_33 rfl (Nat.le_refl _) ⟨rfl, ?_⟩
          exact hP _ (by omega)
      · skip
        intro q1
        have ev1 : v1 = (gA G 28 0 ((a + 1) * 91 + (b + 0))) := by rcases hv1 with z | z; exact z.2; exact absurd q1 z.1
        refine pw_iload r_0_firstWalking_24 rfl ?_
        refine pw_icmp_ne r_0_firstWalking_25 (fun h25 => ?_) (fun h25 => ?_)
        · skip
          refine pw_const r_0_firstWalking_32 ?_
          refine pw_iret r_0_firstWalking_33 rfl (Nat.le_refl _) ⟨rfl, ?_⟩
          exact hP _ (by omega)
        · skip
          refine pw_const r_0_firstWalking_28 ?_
          refine pw_goto r_0_firstWalking_29 ?_
          refine pw_iret r_0_firstWalking_33 rfl (Nat.le_refl _) ⟨rfl, ?_⟩
          exact hP _ (by omega)
    · skip
      refine pw_const r_0_firstWalking_13 ?_
      refine pw_iret r_0_firstWalking_14 rfl (Nat.le_refl _) ⟨rfl, ?_⟩
      exact hP _ (by omega)
  · skip
    intro q1
    have ev3 : v3 = (gA G 28 0 ((a + 1) * 91 + (b + 1))) := by rcases hv3 with z | z; exact z.2; exact absurd q1 z.1
    refine pw_iload r_0_firstWalking_9 rfl ?_
    refine pw_icmp_ne r_0_firstWalking_10 (fun h10 => ?_) (fun h10 => ?_)
    · skip
      refine pw_aload r_0_firstWalking_15 rfl ?_
      refine pw_iload r_0_firstWalking_16 rfl ?_
      refine pw_iload r_0_firstWalking_17 rfl ?_
      refine pw_const r_0_firstWalking_18 ?_
      refine pw_iload r_0_firstWalking_19 rfl ?_
      refine pw_callV (av := [vI (a), vI (b), vI (1), vI (h)]) (st := []) (ls0 := [some (vR 0 (0)), some (vI (a)), some (vI (b)), some (vI (1)), some (vI (h)), none, none, none, none]) r_0_firstWalking_21 rfl rfl rfl (Nat.le_refl _) ?_
      refine sp_X0_leastAfter (sa := (1 : Int)) (sb := (0 : Int)) (by exact htt) (by exact hov) (by exact ha) (by exact hh) (by omega) ?_ ?_
      · skip
        intro q1
        have ev1 : v1 = 1000000000 := by rcases hv1 with z | z; exact absurd z.1 q1; exact z.2
        refine pw_iload r_0_firstWalking_24 rfl ?_
        refine pw_icmp_ne r_0_firstWalking_25 (fun h25 => ?_) (fun h25 => ?_)
        · skip
          refine pw_const r_0_firstWalking_32 ?_
          refine pw_iret r_0_firstWalking_33 rfl (Nat.le_refl _) ⟨rfl, ?_⟩
          exact hP _ (by omega)
        · skip
          refine pw_const r_0_firstWalking_28 ?_
          refine pw_goto r_0_firstWalking_29 ?_
          refine pw_iret r_0_firstWalking_33 rfl (Nat.le_refl _) ⟨rfl, ?_⟩
          exact hP _ (by omega)
      · skip
        intro q1
        have ev1 : v1 = (gA G 28 0 ((a + 1) * 91 + (b + 0))) := by rcases hv1 with z | z; exact z.2; exact absurd q1 z.1
        refine pw_iload r_0_firstWalking_24 rfl ?_
        refine pw_icmp_ne r_0_firstWalking_25 (fun h25 => ?_) (fun h25 => ?_)
        · skip
          refine pw_const r_0_firstWalking_32 ?_
          refine pw_iret r_0_firstWalking_33 rfl (Nat.le_refl _) ⟨rfl, ?_⟩
          exact hP _ (by omega)
        · skip
          refine pw_const r_0_firstWalking_28 ?_
          refine pw_goto r_0_firstWalking_29 ?_
          refine pw_iret r_0_firstWalking_33 rfl (Nat.le_refl _) ⟨rfl, ?_⟩
          exact hP _ (by omega)
    · skip
      refine pw_const r_0_firstWalking_13 ?_
      refine pw_iret r_0_firstWalking_14 rfl (Nat.le_refl _) ⟨rfl, ?_⟩
      exact hP _ (by omega)
