theorem wd_m11_1 : Cond.methodLink "NameRolls" 1 Lib.objectInit ∈ UW := UW1_at 27 (by decide +kernel) rfl
theorem wd_cl11_7 : Cond.classLink "NameRolls" 7 RX2 ∈ UW := UW1_at 30 (by decide +kernel) rfl
theorem wd_inst2 : Cond.instantiable RX2 6 ∈ UW := UW1_at 31 (by decide +kernel) rfl
theorem wd_ini2 : Cond.initialized RX2 ∈ UW := UW1_at 2 (by decide +kernel) rfl
theorem wd_cl11_16 : Cond.classLink "NameRolls" 16 RX1 ∈ UW := UW1_at 60 (by decide +kernel) rfl
theorem wd_inst1 : Cond.instantiable RX1 18 ∈ UW := UW1_at 61 (by decide +kernel) rfl
theorem wd_ini1 : Cond.initialized RX1 ∈ UW := UW1_at 3 (by decide +kernel) rfl
theorem wd_m11_18 : Cond.methodLink "NameRolls" 18 M_X1_init.1 ∈ UW := UW1_at 62 (by decide +kernel) rfl
theorem wd_cl11_25 : Cond.classLink "NameRolls" 25 RX9 ∈ UW := UW1_at 130 (by decide +kernel) rfl
theorem wd_inst9 : Cond.instantiable RX9 14 ∈ UW := UW1_at 131 (by decide +kernel) rfl
theorem wd_ini9 : Cond.initialized RX9 ∈ UW := UW1_at 4 (by decide +kernel) rfl
theorem wd_m11_27 : Cond.methodLink "NameRolls" 27 M_X9_init.1 ∈ UW := UW1_at 132 (by decide +kernel) rfl
theorem wd_cl11_34 : Cond.classLink "NameRolls" 34 RX8 ∈ UW := UW1_at 182 (by decide +kernel) rfl
theorem wd_inst8 : Cond.instantiable RX8 11 ∈ UW := UW1_at 183 (by decide +kernel) rfl
theorem wd_ini8 : Cond.initialized RX8 ∈ UW := UW1_at 5 (by decide +kernel) rfl
theorem wd_m11_36 : Cond.methodLink "NameRolls" 36 M_X8_init.1 ∈ UW := UW1_at 184 (by decide +kernel) rfl
theorem wd_cl11_43 : Cond.classLink "NameRolls" 43 RX5 ∈ UW := UW2_at 15 (by decide +kernel) rfl
theorem wd_inst5 : Cond.instantiable RX5 13 ∈ UW := UW2_at 16 (by decide +kernel) rfl
theorem wd_ini5 : Cond.initialized RX5 ∈ UW := UW1_at 7 (by decide +kernel) rfl
theorem wd_m11_45 : Cond.methodLink "NameRolls" 45 M_X5_init.1 ∈ UW := UW2_at 17 (by decide +kernel) rfl
theorem wd_cl11_50 : Cond.classLink "NameRolls" 50 RX10 ∈ UW := UW2_at 67 (by decide +kernel) rfl
theorem wd_inst10 : Cond.instantiable RX10 12 ∈ UW := UW2_at 68 (by decide +kernel) rfl
theorem wd_ini10 : Cond.initialized RX10 ∈ UW := UW1_at 8 (by decide +kernel) rfl
theorem wd_m11_52 : Cond.methodLink "NameRolls" 52 M_X10_init.1 ∈ UW := UW2_at 69 (by decide +kernel) rfl
theorem wd_cl11_59 : Cond.classLink "NameRolls" 59 RX7 ∈ UW := UW2_at 111 (by decide +kernel) rfl
theorem wd_inst7 : Cond.instantiable RX7 17 ∈ UW := UW2_at 112 (by decide +kernel) rfl
theorem wd_ini7 : Cond.initialized RX7 ∈ UW := UW1_at 9 (by decide +kernel) rfl
theorem wd_m11_61 : Cond.methodLink "NameRolls" 61 M_X7_init.1 ∈ UW := UW2_at 113 (by decide +kernel) rfl
theorem wd_cl11_68 : Cond.classLink "NameRolls" 68 RX0 ∈ UW := UW2_at 169 (by decide +kernel) rfl
theorem wd_inst0 : Cond.instantiable RX0 9 ∈ UW := UW2_at 170 (by decide +kernel) rfl
theorem wd_ini0 : Cond.initialized RX0 ∈ UW := UW1_at 10 (by decide +kernel) rfl
theorem wd_cl11_75 : Cond.classLink "NameRolls" 75 RX6 ∈ UW := UW2_at 204 (by decide +kernel) rfl
theorem wd_inst6 : Cond.instantiable RX6 9 ∈ UW := UW2_at 205 (by decide +kernel) rfl
theorem wd_ini6 : Cond.initialized RX6 ∈ UW := UW1_at 11 (by decide +kernel) rfl
theorem r_11_init_1 : ROI M_X11_init 1 4 := ⟨1, by decide +kernel, wd_m11_1, oin_ok.1, oin_ok.2, rfl⟩
theorem r_11_init_0 : RA M_X11_init 0 0 1 := Or.inl ⟨0, by decide +kernel, rfl, rfl⟩
theorem r_11_init_8 : RW M_X11_init 8 .dup 9 1 := ⟨by decide +kernel, rfl⟩
theorem r_11_init_4 : RA M_X11_init 4 0 5 := Or.inl ⟨0, by decide +kernel, rfl, rfl⟩
theorem r_11_init_9 : RKc M_X11_init M_X2_init 9 0 2 12 := ⟨9, by decide +kernel, Or.inr (by decide +kernel), ok_M_X2_init, rfl, rfl, rfl⟩
theorem r_11_init_12 : RP M_X11_init 12 11 0 15 := ⟨10, _, by decide +kernel, rfl, by decide, wd_f11_10, rfl, Or.inr ⟨rfl, rfl, rfl⟩, rfl⟩
theorem r_11_init_19 : RW M_X11_init 19 .dup 20 1 := ⟨by decide +kernel, rfl⟩
theorem r_11_init_15 : RA M_X11_init 15 0 16 := Or.inl ⟨0, by decide +kernel, rfl, rfl⟩
theorem r_11_init_20 : RA M_X11_init 20 0 21 := Or.inl ⟨0, by decide +kernel, rfl, rfl⟩
theorem r_11_init_21 : RG M_X11_init 21 11 0 24 := ⟨10, _, by decide +kernel, rfl, by decide, wd_f11_10, rfl, rfl⟩
theorem r_11_init_24 : RKc M_X11_init M_X1_init 24 1 1 27 := ⟨18, by decide +kernel, Or.inl wd_m11_18, ok_M_X1_init, rfl, rfl, rfl⟩
theorem r_11_init_27 : RP M_X11_init 27 11 1 30 := ⟨21, _, by decide +kernel, rfl, by decide, wd_f11_21, rfl, Or.inr ⟨rfl, rfl, rfl⟩, rfl⟩
theorem r_11_init_34 : RW M_X11_init 34 .dup 35 1 := ⟨by decide +kernel, rfl⟩
theorem r_11_init_30 : RA M_X11_init 30 0 31 := Or.inl ⟨0, by decide +kernel, rfl, rfl⟩
theorem r_11_init_35 : RA M_X11_init 35 0 36 := Or.inl ⟨0, by decide +kernel, rfl, rfl⟩
theorem r_11_init_36 : RG M_X11_init 36 11 1 39 := ⟨21, _, by decide +kernel, rfl, by decide, wd_f11_21, rfl, rfl⟩
theorem r_11_init_39 : RKc M_X11_init M_X9_init 39 1 9 42 := ⟨27, by decide +kernel, Or.inl wd_m11_27, ok_M_X9_init, rfl, rfl, rfl⟩
theorem r_11_init_42 : RP M_X11_init 42 11 2 45 := ⟨30, _, by decide +kernel, rfl, by decide, wd_f11_30, rfl, Or.inr ⟨rfl, rfl, rfl⟩, rfl⟩
theorem r_11_init_49 : RW M_X11_init 49 .dup 50 1 := ⟨by decide +kernel, rfl⟩
theorem r_11_init_45 : RA M_X11_init 45 0 46 := Or.inl ⟨0, by decide +kernel, rfl, rfl⟩
theorem r_11_init_50 : RA M_X11_init 50 0 51 := Or.inl ⟨0, by decide +kernel, rfl, rfl⟩
theorem r_11_init_51 : RG M_X11_init 51 11 1 54 := ⟨21, _, by decide +kernel, rfl, by decide, wd_f11_21, rfl, rfl⟩
theorem r_11_init_54 : RA M_X11_init 54 0 55 := Or.inl ⟨0, by decide +kernel, rfl, rfl⟩
theorem r_11_init_55 : RG M_X11_init 55 11 2 58 := ⟨30, _, by decide +kernel, rfl, by decide, wd_f11_30, rfl, rfl⟩
theorem r_11_init_58 : RKc M_X11_init M_X8_init 58 2 8 61 := ⟨36, by decide +kernel, Or.inl wd_m11_36, ok_M_X8_init, rfl, rfl, rfl⟩
theorem r_11_init_61 : RP M_X11_init 61 11 3 64 := ⟨39, _, by decide +kernel, rfl, by decide, wd_f11_39, rfl, Or.inr ⟨rfl, rfl, rfl⟩, rfl⟩
theorem r_11_init_68 : RW M_X11_init 68 .dup 69 1 := ⟨by decide +kernel, rfl⟩
theorem r_11_init_64 : RA M_X11_init 64 0 65 := Or.inl ⟨0, by decide +kernel, rfl, rfl⟩
theorem r_11_init_69 : RKc M_X11_init M_X5_init 69 0 5 72 := ⟨45, by decide +kernel, Or.inl wd_m11_45, ok_M_X5_init, rfl, rfl, rfl⟩
theorem r_11_init_72 : RP M_X11_init 72 11 4 75 := ⟨46, _, by decide +kernel, rfl, by decide, wd_f11_46, rfl, Or.inr ⟨rfl, rfl, rfl⟩, rfl⟩
theorem r_11_init_79 : RW M_X11_init 79 .dup 80 1 := ⟨by decide +kernel, rfl⟩
theorem r_11_init_75 : RA M_X11_init 75 0 76 := Or.inl ⟨0, by decide +kernel, rfl, rfl⟩
theorem r_11_init_80 : RA M_X11_init 80 0 81 := Or.inl ⟨0, by decide +kernel, rfl, rfl⟩
theorem r_11_init_81 : RG M_X11_init 81 11 1 84 := ⟨21, _, by decide +kernel, rfl, by decide, wd_f11_21, rfl, rfl⟩
theorem r_11_init_84 : RA M_X11_init 84 0 85 := Or.inl ⟨0, by decide +kernel, rfl, rfl⟩
theorem r_11_init_85 : RG M_X11_init 85 11 3 88 := ⟨39, _, by decide +kernel, rfl, by decide, wd_f11_39, rfl, rfl⟩
theorem r_11_init_88 : RKc M_X11_init M_X10_init 88 2 10 91 := ⟨52, by decide +kernel, Or.inl wd_m11_52, ok_M_X10_init, rfl, rfl, rfl⟩
theorem r_11_init_91 : RP M_X11_init 91 11 5 94 := ⟨55, _, by decide +kernel, rfl, by decide, wd_f11_55, rfl, Or.inr ⟨rfl, rfl, rfl⟩, rfl⟩
theorem r_11_init_98 : RW M_X11_init 98 .dup 99 1 := ⟨by decide +kernel, rfl⟩
theorem r_11_init_94 : RA M_X11_init 94 0 95 := Or.inl ⟨0, by decide +kernel, rfl, rfl⟩
theorem r_11_init_99 : RA M_X11_init 99 0 100 := Or.inl ⟨0, by decide +kernel, rfl, rfl⟩
theorem r_11_init_100 : RG M_X11_init 100 11 0 103 := ⟨10, _, by decide +kernel, rfl, by decide, wd_f11_10, rfl, rfl⟩
theorem r_11_init_103 : RA M_X11_init 103 0 104 := Or.inl ⟨0, by decide +kernel, rfl, rfl⟩
theorem r_11_init_104 : RG M_X11_init 104 11 1 107 := ⟨21, _, by decide +kernel, rfl, by decide, wd_f11_21, rfl, rfl⟩
theorem r_11_init_107 : RKc M_X11_init M_X7_init 107 2 7 110 := ⟨61, by decide +kernel, Or.inl wd_m11_61, ok_M_X7_init, rfl, rfl, rfl⟩
theorem r_11_init_110 : RP M_X11_init 110 11 6 113 := ⟨64, _, by decide +kernel, rfl, by decide, wd_f11_64, rfl, Or.inr ⟨rfl, rfl, rfl⟩, rfl⟩
theorem r_11_init_117 : RW M_X11_init 117 .dup 118 1 := ⟨by decide +kernel, rfl⟩
theorem r_11_init_113 : RA M_X11_init 113 0 114 := Or.inl ⟨0, by decide +kernel, rfl, rfl⟩
theorem r_11_init_118 : RKc M_X11_init M_X0_init 118 0 0 121 := ⟨70, by decide +kernel, Or.inr (by decide +kernel), ok_M_X0_init, rfl, rfl, rfl⟩
theorem r_11_init_121 : RP M_X11_init 121 11 7 124 := ⟨71, _, by decide +kernel, rfl, by decide, wd_f11_71, rfl, Or.inr ⟨rfl, rfl, rfl⟩, rfl⟩
theorem r_11_init_128 : RW M_X11_init 128 .dup 129 1 := ⟨by decide +kernel, rfl⟩
theorem r_11_init_124 : RA M_X11_init 124 0 125 := Or.inl ⟨0, by decide +kernel, rfl, rfl⟩
theorem r_11_init_129 : RKc M_X11_init M_X6_init 129 0 6 132 := ⟨77, by decide +kernel, Or.inr (by decide +kernel), ok_M_X6_init, rfl, rfl, rfl⟩
theorem r_11_init_132 : RP M_X11_init 132 11 8 135 := ⟨78, _, by decide +kernel, rfl, by decide, wd_f11_78, rfl, Or.inr ⟨rfl, rfl, rfl⟩, rfl⟩
theorem r_11_init_135 : RW M_X11_init 135 .return_ 136 1 := ⟨by decide +kernel, rfl⟩
def lc11 : List PR := ((((((((([] ++ ((2, 0) :: lc2)) ++ ((1, 0) :: lc1)) ++ ((9, 0) :: lc9)) ++ ((8, 0) :: lc8)) ++ ((5, 0) :: lc5)) ++ ((10, 0) :: lc10)) ++ ((7, 0) :: lc7)) ++ ((0, 0) :: lc0)) ++ ((6, 0) :: lc6))
set_option maxRecDepth 10000 in
theorem ctor_11 {l : Launch} {w : Wo} (hw : AlOk w) : Met l M_X11_init.1 (wsM M_X11_init) (bR 4 231 12237) (PcB w 1 11 [vR 11 0]) (QcB (frA w 11 1) (FcB w gt (1 + 231) ((11, 0) :: lc11))) 231 12237 (frA w 11 1) := by
  refine met_ctor (by decide +kernel) rfl (Nat.le_of_ble_eq_true rfl) ?_
  rw [st_W (G := ga) (N := 9) (by decide +kernel)]
  refine b_aload r_11_init_0 rfl (b_objInit r_11_init_1 (by decide) rfl ?_)
  refine b_aload r_11_init_4 rfl (b_new (c2 := 2) (N := 6) (q := (RX2, TX2, 6)) ⟨7, by decide +kernel, wd_cl11_7, wd_inst2, wd_ini2, rfl⟩ rfl rfl (al_at hw (by decide) (by decide +kernel)) ⟨Nat.le_of_ble_eq_true rfl, Nat.le_of_ble_eq_true rfl⟩ (kc' := 1) (ks' := 6) rfl rfl (b_dup r_11_init_8 ?_))
  refine b_ctor (M' := M_X2_init) (n := 0) (d' := 2) (mc' := 5) (ms' := 392) (G := ga) (av := []) (L2 := lc2) r_11_init_9 rfl (ctor_2 hw) hw (frA_base hw (by decide)) (by decide +kernel) (Nat.le_of_ble_eq_true rfl) ⟨Nat.le_of_ble_eq_true rfl, Nat.le_of_ble_eq_true rfl⟩ (kc' := 6) (ks' := 398) rfl rfl rfl ?_
  rw [wW_app]
  refine b_putW r_11_init_12 (rty_ok rfl) (by decide) (fval_R fs_11_0 (by decide)) ?_
  refine b_aload r_11_init_15 rfl (b_new (c2 := 1) (N := 18) (q := (RX1, TX1, 18)) ⟨16, by decide +kernel, wd_cl11_16, wd_inst1, wd_ini1, rfl⟩ rfl rfl (al_at hw (by decide) (by decide +kernel)) ⟨Nat.le_of_ble_eq_true rfl, Nat.le_of_ble_eq_true rfl⟩ (kc' := 7) (ks' := 416) rfl rfl (b_dup r_11_init_19 ?_))
  refine b_aload r_11_init_20 rfl (b_get (q0 := 0) (ci := 11) (v := vR 2 0) r_11_init_21 rfl (fD_in (by decide) (by decide) (fval_R fs_11_0 (by decide))) ?_)
  refine b_ctor (M' := M_X1_init) (n := 1) (d' := 2) (mc' := 11) (ms' := 1949) (G := ga) (av := [vR 2 0]) (L2 := lc1) r_11_init_24 rfl (ctor_1 hw) hw (frA_base hw (by decide)) (by decide +kernel) (Nat.le_of_ble_eq_true rfl) ⟨Nat.le_of_ble_eq_true rfl, Nat.le_of_ble_eq_true rfl⟩ (kc' := 18) (ks' := 2365) rfl rfl rfl ?_
  rw [wW_app]
  refine b_putW r_11_init_27 (rty_ok rfl) (by decide) (fval_R fs_11_1 (by decide)) ?_
  refine b_aload r_11_init_30 rfl (b_new (c2 := 9) (N := 14) (q := (RX9, TX9, 14)) ⟨25, by decide +kernel, wd_cl11_25, wd_inst9, wd_ini9, rfl⟩ rfl rfl (al_at hw (by decide) (by decide +kernel)) ⟨Nat.le_of_ble_eq_true rfl, Nat.le_of_ble_eq_true rfl⟩ (kc' := 19) (ks' := 2379) rfl rfl (b_dup r_11_init_34 ?_))
  refine b_aload r_11_init_35 rfl (b_get (q0 := 0) (ci := 11) (v := vR 1 0) r_11_init_36 rfl (fD_in (by decide) (by decide) (fval_R fs_11_1 (by decide))) ?_)
  refine b_ctor (M' := M_X9_init) (n := 1) (d' := 2) (mc' := 9) (ms' := 1660) (G := ga) (av := [vR 1 0]) (L2 := lc9) r_11_init_39 rfl (ctor_9 hw) hw (frA_base hw (by decide)) (by decide +kernel) (Nat.le_of_ble_eq_true rfl) ⟨Nat.le_of_ble_eq_true rfl, Nat.le_of_ble_eq_true rfl⟩ (kc' := 28) (ks' := 4039) rfl rfl rfl ?_
  rw [wW_app]
  refine b_putW r_11_init_42 (rty_ok rfl) (by decide) (fval_R fs_11_2 (by decide)) ?_
  refine b_aload r_11_init_45 rfl (b_new (c2 := 8) (N := 11) (q := (RX8, TX8, 11)) ⟨34, by decide +kernel, wd_cl11_34, wd_inst8, wd_ini8, rfl⟩ rfl rfl (al_at hw (by decide) (by decide +kernel)) ⟨Nat.le_of_ble_eq_true rfl, Nat.le_of_ble_eq_true rfl⟩ (kc' := 29) (ks' := 4050) rfl rfl (b_dup r_11_init_49 ?_))
  refine b_aload r_11_init_50 rfl (b_get (q0 := 0) (ci := 11) (v := vR 1 0) r_11_init_51 rfl (fD_in (by decide) (by decide) (fval_R fs_11_1 (by decide))) ?_)
  refine b_aload r_11_init_54 rfl (b_get (q0 := 0) (ci := 11) (v := vR 9 0) r_11_init_55 rfl (fD_in (by decide) (by decide) (fval_R fs_11_2 (by decide))) ?_)
  refine b_ctor (M' := M_X8_init) (n := 2) (d' := 3) (mc' := 29) (ms' := 3475) (G := ga) (av := [vR 1 0, vR 9 0]) (L2 := lc8) r_11_init_58 rfl (ctor_8 hw) hw (frA_base hw (by decide)) (by decide +kernel) (Nat.le_of_ble_eq_true rfl) ⟨Nat.le_of_ble_eq_true rfl, Nat.le_of_ble_eq_true rfl⟩ (kc' := 58) (ks' := 7525) rfl rfl rfl ?_
  rw [wW_app]
  refine b_putW r_11_init_61 (rty_ok rfl) (by decide) (fval_R fs_11_3 (by decide)) ?_
  refine b_aload r_11_init_64 rfl (b_new (c2 := 5) (N := 13) (q := (RX5, TX5, 13)) ⟨43, by decide +kernel, wd_cl11_43, wd_inst5, wd_ini5, rfl⟩ rfl rfl (al_at hw (by decide) (by decide +kernel)) ⟨Nat.le_of_ble_eq_true rfl, Nat.le_of_ble_eq_true rfl⟩ (kc' := 59) (ks' := 7538) rfl rfl (b_dup r_11_init_68 ?_))
  refine b_ctor (M' := M_X5_init) (n := 0) (d' := 2) (mc' := 115) (ms' := 2236) (G := gr) (av := []) (L2 := lc5) r_11_init_69 rfl (ctor_5 hw) hw (frA_base hw (by decide)) (by decide +kernel) (Nat.le_of_ble_eq_true rfl) ⟨Nat.le_of_ble_eq_true rfl, Nat.le_of_ble_eq_true rfl⟩ (kc' := 174) (ks' := 9774) rfl rfl rfl ?_
  rw [show wW w ga 11 9 [3, 2, 1, 0] (((([] ++ ((2, 0) :: lc2)) ++ ((1, 0) :: lc1)) ++ ((9, 0) :: lc9)) ++ ((8, 0) :: lc8)) = wW w gr 11 9 [3, 2, 1, 0] (((([] ++ ((2, 0) :: lc2)) ++ ((1, 0) :: lc1)) ++ ((9, 0) :: lc9)) ++ ((8, 0) :: lc8)) from ((wW_uA (by decide +kernel)).trans (wW_uA (by decide +kernel))).symm]
  rw [wW_app]
  refine b_putW r_11_init_72 (rty_ok rfl) (by decide) (fval_R fs_11_4 (by decide)) ?_
  refine b_aload r_11_init_75 rfl (b_new (c2 := 10) (N := 12) (q := (RX10, TX10, 12)) ⟨50, by decide +kernel, wd_cl11_50, wd_inst10, wd_ini10, rfl⟩ rfl rfl (al_at hw (by decide) (by decide +kernel)) ⟨Nat.le_of_ble_eq_true rfl, Nat.le_of_ble_eq_true rfl⟩ (kc' := 175) (ks' := 9786) rfl rfl (b_dup r_11_init_79 ?_))
  refine b_aload r_11_init_80 rfl (b_get (q0 := 0) (ci := 11) (v := vR 1 0) r_11_init_81 rfl (fD_in (by decide) (by decide) (fval_R fs_11_1 (by decide))) ?_)
  refine b_aload r_11_init_84 rfl (b_get (q0 := 0) (ci := 11) (v := vR 8 0) r_11_init_85 rfl (fD_in (by decide) (by decide) (fval_R fs_11_3 (by decide))) ?_)
  refine b_ctor (M' := M_X10_init) (n := 2) (d' := 2) (mc' := 23) (ms' := 874) (G := gt) (av := [vR 1 0, vR 8 0]) (L2 := lc10) r_11_init_88 rfl (ctor_10 hw) hw (frA_base hw (by decide)) (by decide +kernel) (Nat.le_of_ble_eq_true rfl) ⟨Nat.le_of_ble_eq_true rfl, Nat.le_of_ble_eq_true rfl⟩ (kc' := 198) (ks' := 10660) rfl rfl rfl ?_
  rw [show wW w gr 11 9 [4, 3, 2, 1, 0] ((((([] ++ ((2, 0) :: lc2)) ++ ((1, 0) :: lc1)) ++ ((9, 0) :: lc9)) ++ ((8, 0) :: lc8)) ++ ((5, 0) :: lc5)) = wW w gt 11 9 [4, 3, 2, 1, 0] ((((([] ++ ((2, 0) :: lc2)) ++ ((1, 0) :: lc1)) ++ ((9, 0) :: lc9)) ++ ((8, 0) :: lc8)) ++ ((5, 0) :: lc5)) from ((wW_sA2 (by decide +kernel)).trans (wW_sA2 (by decide +kernel))).symm]
  rw [wW_app]
  refine b_putW r_11_init_91 (rty_ok rfl) (by decide) (fval_R fs_11_5 (by decide)) ?_
  refine b_aload r_11_init_94 rfl (b_new (c2 := 7) (N := 17) (q := (RX7, TX7, 17)) ⟨59, by decide +kernel, wd_cl11_59, wd_inst7, wd_ini7, rfl⟩ rfl rfl (al_at hw (by decide) (by decide +kernel)) ⟨Nat.le_of_ble_eq_true rfl, Nat.le_of_ble_eq_true rfl⟩ (kc' := 199) (ks' := 10677) rfl rfl (b_dup r_11_init_98 ?_))
  refine b_aload r_11_init_99 rfl (b_get (q0 := 0) (ci := 11) (v := vR 2 0) r_11_init_100 rfl (fD_in (by decide) (by decide) (fval_R fs_11_0 (by decide))) ?_)
  refine b_aload r_11_init_103 rfl (b_get (q0 := 0) (ci := 11) (v := vR 1 0) r_11_init_104 rfl (fD_in (by decide) (by decide) (fval_R fs_11_1 (by decide))) ?_)
  refine b_ctor (M' := M_X7_init) (n := 2) (d' := 2) (mc' := 11) (ms' := 240) (G := gt) (av := [vR 2 0, vR 1 0]) (L2 := lc7) r_11_init_107 rfl (ctor_7 hw) hw (frA_base hw (by decide)) (by decide +kernel) (Nat.le_of_ble_eq_true rfl) ⟨Nat.le_of_ble_eq_true rfl, Nat.le_of_ble_eq_true rfl⟩ (kc' := 210) (ks' := 10917) rfl rfl rfl ?_
  rw [wW_app]
  refine b_putW r_11_init_110 (rty_ok rfl) (by decide) (fval_R fs_11_6 (by decide)) ?_
  refine b_aload r_11_init_113 rfl (b_new (c2 := 0) (N := 9) (q := (RX0, TX0, 9)) ⟨68, by decide +kernel, wd_cl11_68, wd_inst0, wd_ini0, rfl⟩ rfl rfl (al_at hw (by decide) (by decide +kernel)) ⟨Nat.le_of_ble_eq_true rfl, Nat.le_of_ble_eq_true rfl⟩ (kc' := 211) (ks' := 10926) rfl rfl (b_dup r_11_init_117 ?_))
  refine b_ctor (M' := M_X0_init) (n := 0) (d' := 2) (mc' := 14) (ms' := 1274) (G := gt) (av := []) (L2 := lc0) r_11_init_118 rfl (ctor_0 hw) hw (frA_base hw (by decide)) (by decide +kernel) (Nat.le_of_ble_eq_true rfl) ⟨Nat.le_of_ble_eq_true rfl, Nat.le_of_ble_eq_true rfl⟩ (kc' := 225) (ks' := 12200) rfl rfl rfl ?_
  rw [wW_app]
  refine b_putW r_11_init_121 (rty_ok rfl) (by decide) (fval_R fs_11_7 (by decide)) ?_
  refine b_aload r_11_init_124 rfl (b_new (c2 := 6) (N := 9) (q := (RX6, TX6, 9)) ⟨75, by decide +kernel, wd_cl11_75, wd_inst6, wd_ini6, rfl⟩ rfl rfl (al_at hw (by decide) (by decide +kernel)) ⟨Nat.le_of_ble_eq_true rfl, Nat.le_of_ble_eq_true rfl⟩ (kc' := 226) (ks' := 12209) rfl rfl (b_dup r_11_init_128 ?_))
  refine b_ctor (M' := M_X6_init) (n := 0) (d' := 2) (mc' := 5) (ms' := 28) (G := gt) (av := []) (L2 := lc6) r_11_init_129 rfl (ctor_6 hw) hw (frA_base hw (by decide)) (by decide +kernel) (Nat.le_of_ble_eq_true rfl) ⟨Nat.le_of_ble_eq_true rfl, Nat.le_of_ble_eq_true rfl⟩ (kc' := 231) (ks' := 12237) rfl rfl rfl ?_
  rw [wW_app]
  refine b_putW r_11_init_132 (rty_ok rfl) (by decide) (fval_R fs_11_8 (by decide)) ?_
  exact b_ret r_11_init_135 rfl rfl rfl (fun H hz hP => ⟨by omega, fin_W sh11 (by decide +kernel) rfl hP⟩)
