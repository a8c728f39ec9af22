section CG
variable {b c : Int → Int} {n : Int}
theorem sgn_cg (h : ∀ j, 0 ≤ j → j < n → b j = c j) {a : Int} (ha : 0 ≤ a) : sgn b n a = sgn c n a := by
  unfold sgn
  by_cases q : a < n
  · rw [if_pos q, if_pos q, h a ha q]
  · rw [if_neg q, if_neg q]
theorem dgN_cg (h : ∀ j, 0 ≤ j → j < n → b j = c j) {a : Int} (ha : 0 ≤ a) : ∀ m : Nat, dgN b n a m = dgN c n a m
  | 0 => rfl
  | m + 1 => by rw [dgN, dgN, dgN_cg h ha m, sgn_cg h (show 0 ≤ a + (m : Int) by omega)]
theorem dgV_cg (h : ∀ j, 0 ≤ j → j < n → b j = c j) {a m : Int} (ha : 0 ≤ a) : dgV b n a m = dgV c n a m := dgN_cg h ha _
theorem dgOk_cg (h : ∀ j, 0 ≤ j → j < n → b j = c j) {a m : Int} (ha : 0 ≤ a) (hm : dgOk b n a m) : dgOk c n a m :=
  ⟨hm.1, hm.2.1, fun j j0 j1 => by rw [← sgn_cg h (show 0 ≤ a + j by omega)]; exact hm.2.2.1 j j0 j1, by rw [← sgn_cg h (show 0 ≤ a + m by have := hm.1; omega)]; exact hm.2.2.2⟩
theorem Ev_cg (h : ∀ j, 0 ≤ j → j < n → b j = c j) : ∀ {k : Nat} {r o a : Int} {m : Option Sem} {res : PRes}, 0 ≤ a → Ev b n k r o a m res → Ev c n k r o a m res ∧ ∀ a1 s1, res = .inr (a1, s1) → 0 ≤ a1
  | 0, _, _, _, _, _, _, hh => hh.elim
  | k + 1, r, o, a, none, res, ha, hh => by
    have e := sgn_cg h ha
    rcases hh with ⟨h5, hh⟩ | ⟨h5, q, hq, hr⟩
    · rcases hh with ⟨hd, m, hm, er⟩ | ⟨hc, ho, er⟩ | ⟨hc, ho, q, hq, hr⟩ | ⟨hc, ho, q, hq, hr⟩ | ⟨hc, er⟩ | ⟨hd, hc1, hc2, hc, er⟩
      · refine ⟨Or.inl ⟨h5, Or.inl ⟨by rw [← e]; exact hd, m, dgOk_cg h ha hm, by rw [er, dgV_cg h ha]⟩⟩, fun a1 s1 z => ?_⟩
        rw [er] at z
        cases z
        have := hm.1
        omega
      · exact ⟨Or.inl ⟨h5, Or.inr (Or.inl ⟨by rw [← e]; exact hc, ho, er⟩)⟩, fun _ _ z => by rw [er] at z; cases z⟩
      · have i := Ev_cg h (show 0 ≤ a + 1 by omega) hq
        rcases q with z | ⟨a2, s2⟩
        · have er : res = .inl z := hr
          exact ⟨Or.inl ⟨h5, Or.inr (Or.inr (Or.inl ⟨by rw [← e]; exact hc, ho, _, i.1, er⟩))⟩, fun _ _ z => by rw [er] at z; cases z⟩
        · have er : res = .inr (a2, fun e => b2i (s2 e = 0)) := hr
          exact ⟨Or.inl ⟨h5, Or.inr (Or.inr (Or.inl ⟨by rw [← e]; exact hc, ho, _, i.1, er⟩))⟩, fun a1 s1 z => by rw [er] at z; cases z; exact i.2 a2 s2 rfl⟩
      · have i := Ev_cg h (show 0 ≤ a + 1 by omega) hq
        rcases q with z | ⟨a2, s2⟩
        · have er : res = .inl z := hr
          exact ⟨Or.inl ⟨h5, Or.inr (Or.inr (Or.inr (Or.inl ⟨by rw [← e]; exact hc, ho, _, i.1, er⟩)))⟩, fun _ _ z => by rw [er] at z; cases z⟩
        · have ha2 := i.2 a2 s2 rfl
          have e2 := sgn_cg h ha2
          rcases (show (sgn b n a2 = 41 ∧ res = .inr (a2 + 1, s2)) ∨ (sgn b n a2 ≠ 41 ∧ res = .inl a2) from hr) with ⟨x1, er⟩ | ⟨x1, er⟩
          · exact ⟨Or.inl ⟨h5, Or.inr (Or.inr (Or.inr (Or.inl ⟨by rw [← e]; exact hc, ho, _, i.1, Or.inl ⟨by rw [← e2]; exact x1, er⟩⟩)))⟩, fun a1 s1 z => by rw [er] at z; cases z; omega⟩
          · exact ⟨Or.inl ⟨h5, Or.inr (Or.inr (Or.inr (Or.inl ⟨by rw [← e]; exact hc, ho, _, i.1, Or.inr ⟨by rw [← e2]; exact x1, er⟩⟩)))⟩, fun _ _ z => by rw [er] at z; cases z⟩
      · exact ⟨Or.inl ⟨h5, Or.inr (Or.inr (Or.inr (Or.inr (Or.inl ⟨by rw [← e]; exact hc, by rw [er, e]⟩))))⟩, fun a1 s1 z => by rw [er] at z; cases z; omega⟩
      · exact ⟨Or.inl ⟨h5, Or.inr (Or.inr (Or.inr (Or.inr (Or.inr ⟨by rw [← e]; exact hd, by rw [← e]; exact hc1, by rw [← e]; exact hc2, by rw [← e]; exact hc, er⟩))))⟩, fun _ _ z => by rw [er] at z; cases z⟩
    · have i := Ev_cg h ha hq
      rcases q with z | ⟨a2, s2⟩
      · have er : res = .inl z := hr
        exact ⟨Or.inr ⟨h5, _, i.1, er⟩, fun _ _ z => by rw [er] at z; cases z⟩
      · have i2 := Ev_cg h (i.2 a2 s2 rfl) (show Ev b n k r o a2 (some s2) res from hr)
        exact ⟨Or.inr ⟨h5, _, i.1, i2.1⟩, i2.2⟩
  | k + 1, r, o, a, some s, res, ha, hh => by
    have e := sgn_cg h ha
    rcases hh with ⟨h2, er⟩ | ⟨h2, q, hq, hr⟩
    · exact ⟨Or.inl ⟨by rw [← e]; exact h2, er⟩, fun a1 s1 z => by rw [er] at z; cases z; exact ha⟩
    · have i := Ev_cg h (show 0 ≤ a + 1 by omega) hq
      rcases q with z | ⟨a2, s2⟩
      · have er : res = .inl z := hr
        exact ⟨Or.inr ⟨by rw [← e]; exact h2, _, i.1, er⟩, fun _ _ z => by rw [er] at z; cases z⟩
      · rcases (show (r = 2 ∧ res = .inr (a2, fun e => wk (sgn b n a) (s e) (s2 e))) ∨ (r ≠ 2 ∧ Ev b n k r o a2 (some fun e => wk (sgn b n a) (s e) (s2 e)) res) from hr) with ⟨x1, er⟩ | ⟨x1, x2⟩
        · exact ⟨Or.inr ⟨by rw [← e]; exact h2, _, i.1, Or.inl ⟨x1, by rw [er, e]⟩⟩, fun a1 s1 z => by rw [er] at z; cases z; exact i.2 a2 s2 rfl⟩
        · have i2 := Ev_cg h (i.2 a2 s2 rfl) x2
          refine ⟨Or.inr ⟨by rw [← e]; exact h2, _, i.1, Or.inr ⟨x1, ?_⟩⟩, i2.2⟩
          have i3 := i2.1
          rw [e] at i3
          exact i3
theorem EvX_cg (h : ∀ j, 0 ≤ j → j < n → b j = c j) {r o a : Int} {m : Option Sem} {res : PRes} (ha : 0 ≤ a) (hh : EvX b n r o a m res) : EvX c n r o a m res ∧ ∀ a1 s1, res = .inr (a1, s1) → 0 ≤ a1 := by
  obtain ⟨k, hh⟩ := hh
  exact ⟨⟨k, (Ev_cg h ha hh).1⟩, (Ev_cg h ha hh).2⟩
theorem tailR_cg (h : ∀ j, 0 ≤ j → j < n → b j = c j) {a : Int} {z : Ln} {m1 m2 : Int → LRes → Prop} {res : LRes} (ha : 0 ≤ a) (hm : ∀ x y, 0 ≤ x → m1 x y → m2 x y) (hh : tailR b n a z m1 res) : tailR c n a z m2 res := by
  have e := sgn_cg h ha
  rcases hh with ⟨c1, x, hx, e1⟩ | ⟨c1, hh⟩
  · exact Or.inl ⟨by rw [← e]; exact c1, x, hm _ _ (by omega) hx, e1⟩
  · exact Or.inr ⟨by rw [← e]; exact c1, hh⟩
theorem EvL_cg (h : ∀ j, 0 ≤ j → j < n → b j = c j) : ∀ {k : Nat} {a : Int} {res : LRes}, 0 ≤ a → EvL b n k a res → EvL c n k a res
  | 0, _, _, _, hh => hh.elim
  | k + 1, a, res, ha, hh => by
    obtain ⟨q, hq, hh⟩ := hh
    have i := EvX_cg h ha hq
    rcases q with z | ⟨a1, s1⟩
    · exact ⟨_, i.1, hh⟩
    · have h1 := i.2 a1 s1 rfl
      have e := sgn_cg h h1
      rcases hh with ⟨c1, q2, hq2, hh⟩ | ⟨c1, hh⟩
      · have i2 := EvX_cg h (show 0 ≤ a1 + 1 by omega) hq2
        rcases q2 with z | ⟨a2, s2⟩
        · exact ⟨_, i.1, Or.inl ⟨by rw [← e]; exact c1, _, i2.1, hh⟩⟩
        · exact ⟨_, i.1, Or.inl ⟨by rw [← e]; exact c1, _, i2.1, tailR_cg h (i2.2 a2 s2 rfl) (fun x y hx hy => EvL_cg h hx hy) hh⟩⟩
      · exact ⟨_, i.1, Or.inr ⟨by rw [← e]; exact c1, tailR_cg h h1 (fun x y hx hy => EvL_cg h hx hy) hh⟩⟩
theorem textOk_cg (h : ∀ j, 0 ≤ j → j < n → b j = c j) (ht : textOk b n) : textOk c n := by
  obtain ⟨L, k, hL⟩ := ht
  exact ⟨L, k, EvL_cg h (Int.le_refl 0) hL⟩
end CG
theorem fits_by {x : Int} (h : -128 ≤ x ∧ x ≤ 127) : fits (aty 1) (.int (Int32.ofInt x)) = true := by
  have key : ∀ k : Nat, k < 256 → fits (aty 1) (.int (Int32.ofInt ((k : Int) - 128))) = true := by decide +kernel
  have := key (x + 128).toNat (by omega)
  rwa [show (((x + 128).toNat : Nat) : Int) - 128 = x by omega] at this

theorem wd_f8_70 : Cond.fieldLink "NameRolls$Texts" 70 "NameRolls$Reader" "fault" "I" ∈ UW := UW1_at 197 (by decide +kernel) rfl
theorem wd_m8_73 : Cond.methodLink "NameRolls$Texts" 73 arraycopyName ∈ UW := UW4_at 235 (by decide +kernel) rfl
theorem wd_m11_142 : Cond.methodLink "NameRolls" 142 M_X8_addText.1 ∈ UW := UW4_at 107 (by decide +kernel) rfl
theorem wd_s8_addText : Cond.selects M_X8_addText.1.cls M_X8_addText.1 M_X8_addText.1 ∈ UW := UW4_at 109 (by decide +kernel) rfl
theorem r_8_addText_0 : RL M_X8_addText 0 1 1 := Or.inl ⟨1, by decide +kernel, rfl, rfl⟩
theorem r_8_addText_1 : RKs M_X8_addText M_X8_isPurpose 1 1 4 := ⟨56, by decide +kernel, Or.inl wd_m8_56, ok_M_X8_isPurpose, rfl⟩
theorem r_8_addText_4 : RB M_X8_addText 4 (.ifCond .eq) 14 7 := ⟨10, by decide +kernel, rfl, rfl⟩
theorem r_8_addText_14 : RC M_X8_addText 14 (-1) 15 := ⟨⟨by decide, by decide⟩, Or.inl ⟨by decide +kernel, rfl⟩⟩
theorem r_8_addText_15 : RW M_X8_addText 15 .ireturn 16 1 := ⟨by decide +kernel, rfl⟩
theorem r_8_addText_7 : RL M_X8_addText 7 2 8 := Or.inl ⟨2, by decide +kernel, rfl, rfl⟩
theorem r_8_addText_8 : RKs M_X8_addText M_X11_isDay 8 1 11 := ⟨60, by decide +kernel, Or.inr (by decide +kernel), ok_M_X11_isDay, rfl⟩
theorem r_8_addText_11 : RB M_X8_addText 11 (.ifCond .ne) 16 14 := ⟨5, by decide +kernel, rfl, rfl⟩
theorem r_8_addText_16 : RA M_X8_addText 16 0 17 := Or.inl ⟨0, by decide +kernel, rfl, rfl⟩
theorem r_8_addText_17 : RG M_X8_addText 17 8 0 20 := ⟨63, _, by decide +kernel, rfl, by decide, wd_f8_63, rfl, rfl⟩
theorem r_8_addText_20 : RC M_X8_addText 20 20 22 := ⟨⟨by decide, by decide⟩, Or.inr (Or.inl ⟨by decide +kernel, by decide, rfl⟩)⟩
theorem r_8_addText_22 : RB M_X8_addText 22 (.if_icmp .lt) 28 25 := ⟨6, by decide +kernel, rfl, rfl⟩
theorem r_8_addText_28 : RA M_X8_addText 28 0 29 := Or.inl ⟨0, by decide +kernel, rfl, rfl⟩
theorem r_8_addText_29 : RG M_X8_addText 29 8 1 32 := ⟨52, _, by decide +kernel, rfl, by decide, wd_f8_52, rfl, rfl⟩
theorem r_8_addText_32 : RS M_X8_addText 32 3 33 := ⟨by decide, Or.inl ⟨3, by decide +kernel, rfl, rfl⟩⟩
theorem r_8_addText_33 : RA M_X8_addText 33 0 34 := Or.inl ⟨0, by decide +kernel, rfl, rfl⟩
theorem r_8_addText_34 : RC M_X8_addText 34 0 35 := ⟨⟨by decide, by decide⟩, Or.inl ⟨by decide +kernel, rfl⟩⟩
theorem r_8_addText_35 : RP M_X8_addText 35 8 1 38 := ⟨52, _, by decide +kernel, rfl, by decide, wd_f8_52, rfl, Or.inl rfl, rfl⟩
theorem r_8_addText_38 : RA M_X8_addText 38 0 39 := Or.inl ⟨0, by decide +kernel, rfl, rfl⟩
theorem r_8_addText_39 : RG M_X8_addText 39 8 4 42 := ⟨12, _, by decide +kernel, rfl, by decide, wd_f8_12, rfl, rfl⟩
theorem r_8_addText_42 : RA M_X8_addText 42 0 43 := Or.inl ⟨0, by decide +kernel, rfl, rfl⟩
theorem r_8_addText_43 : RG M_X8_addText 43 8 5 46 := ⟨18, _, by decide +kernel, rfl, by decide, wd_f8_18, rfl, rfl⟩
theorem r_8_addText_46 : RL M_X8_addText 46 3 47 := Or.inl ⟨3, by decide +kernel, rfl, rfl⟩
theorem r_8_addText_47 : RKv M_X8_addText M_X4_readAll 47 2 4 50 := ⟨66, by decide +kernel, wd_m8_66, ok_M_X4_readAll, wd_s4_readAll, rfl⟩
theorem r_8_addText_50 : RW M_X8_addText 50 .pop 51 1 := ⟨by decide +kernel, rfl⟩
theorem r_8_addText_51 : RA M_X8_addText 51 0 52 := Or.inl ⟨0, by decide +kernel, rfl, rfl⟩
theorem r_8_addText_52 : RG M_X8_addText 52 8 4 55 := ⟨12, _, by decide +kernel, rfl, by decide, wd_f8_12, rfl, rfl⟩
theorem r_8_addText_55 : RG M_X8_addText 55 4 1 58 := ⟨70, _, by decide +kernel, rfl, by decide, wd_f8_70, rfl, rfl⟩
theorem r_8_addText_58 : RB M_X8_addText 58 (.ifCond .lt) 72 61 := ⟨14, by decide +kernel, rfl, rfl⟩
theorem r_8_addText_61 : RC M_X8_addText 61 (-100) 63 := ⟨⟨by decide, by decide⟩, Or.inr (Or.inl ⟨by decide +kernel, by decide, rfl⟩)⟩
theorem r_8_addText_63 : RA M_X8_addText 63 0 64 := Or.inl ⟨0, by decide +kernel, rfl, rfl⟩
theorem r_8_addText_64 : RG M_X8_addText 64 8 4 67 := ⟨12, _, by decide +kernel, rfl, by decide, wd_f8_12, rfl, rfl⟩
theorem r_8_addText_67 : RG M_X8_addText 67 4 1 70 := ⟨70, _, by decide +kernel, rfl, by decide, wd_f8_70, rfl, rfl⟩
theorem r_8_addText_70 : RW M_X8_addText 70 .isub 71 1 := ⟨by decide +kernel, rfl⟩
theorem r_8_addText_71 : RW M_X8_addText 71 .ireturn 72 1 := ⟨by decide +kernel, rfl⟩
theorem r_8_addText_72 : RA M_X8_addText 72 0 73 := Or.inl ⟨0, by decide +kernel, rfl, rfl⟩
theorem r_8_addText_73 : RG M_X8_addText 73 8 5 76 := ⟨18, _, by decide +kernel, rfl, by decide, wd_f8_18, rfl, rfl⟩
theorem r_8_addText_76 : RC M_X8_addText 76 0 77 := ⟨⟨by decide, by decide⟩, Or.inl ⟨by decide +kernel, rfl⟩⟩
theorem r_8_addText_77 : RA M_X8_addText 77 0 78 := Or.inl ⟨0, by decide +kernel, rfl, rfl⟩
theorem r_8_addText_78 : RG M_X8_addText 78 8 6 81 := ⟨24, _, by decide +kernel, rfl, by decide, wd_f8_24, rfl, rfl⟩
theorem r_8_addText_81 : RA M_X8_addText 81 0 82 := Or.inl ⟨0, by decide +kernel, rfl, rfl⟩
theorem r_8_addText_82 : RG M_X8_addText 82 8 0 85 := ⟨63, _, by decide +kernel, rfl, by decide, wd_f8_63, rfl, rfl⟩
theorem r_8_addText_85 : RW M_X8_addText 85 .aaload 86 1 := ⟨by decide +kernel, rfl⟩
theorem r_8_addText_86 : RC M_X8_addText 86 0 87 := ⟨⟨by decide, by decide⟩, Or.inl ⟨by decide +kernel, rfl⟩⟩
theorem r_8_addText_87 : RL M_X8_addText 87 3 88 := Or.inl ⟨3, by decide +kernel, rfl, rfl⟩
theorem r_8_addText_88 : RAC M_X8_addText 88 91 := ⟨73, by decide +kernel, wd_m8_73, acp_ok, rfl⟩
theorem r_8_addText_91 : RA M_X8_addText 91 0 92 := Or.inl ⟨0, by decide +kernel, rfl, rfl⟩
theorem r_8_addText_92 : RG M_X8_addText 92 8 7 95 := ⟨27, _, by decide +kernel, rfl, by decide, wd_f8_27, rfl, rfl⟩
theorem r_8_addText_95 : RA M_X8_addText 95 0 96 := Or.inl ⟨0, by decide +kernel, rfl, rfl⟩
theorem r_8_addText_96 : RG M_X8_addText 96 8 0 99 := ⟨63, _, by decide +kernel, rfl, by decide, wd_f8_63, rfl, rfl⟩
theorem r_8_addText_99 : RL M_X8_addText 99 3 100 := Or.inl ⟨3, by decide +kernel, rfl, rfl⟩
theorem r_8_addText_100 : RW M_X8_addText 100 .iastore 101 1 := ⟨by decide +kernel, rfl⟩
theorem r_8_addText_101 : RA M_X8_addText 101 0 102 := Or.inl ⟨0, by decide +kernel, rfl, rfl⟩
theorem r_8_addText_102 : RG M_X8_addText 102 8 8 105 := ⟨31, _, by decide +kernel, rfl, by decide, wd_f8_31, rfl, rfl⟩
theorem r_8_addText_105 : RA M_X8_addText 105 0 106 := Or.inl ⟨0, by decide +kernel, rfl, rfl⟩
theorem r_8_addText_106 : RG M_X8_addText 106 8 0 109 := ⟨63, _, by decide +kernel, rfl, by decide, wd_f8_63, rfl, rfl⟩
theorem r_8_addText_109 : RL M_X8_addText 109 1 110 := Or.inl ⟨1, by decide +kernel, rfl, rfl⟩
theorem r_8_addText_110 : RW M_X8_addText 110 .iastore 111 1 := ⟨by decide +kernel, rfl⟩
theorem r_8_addText_111 : RA M_X8_addText 111 0 112 := Or.inl ⟨0, by decide +kernel, rfl, rfl⟩
theorem r_8_addText_112 : RG M_X8_addText 112 8 9 115 := ⟨34, _, by decide +kernel, rfl, by decide, wd_f8_34, rfl, rfl⟩
theorem r_8_addText_115 : RA M_X8_addText 115 0 116 := Or.inl ⟨0, by decide +kernel, rfl, rfl⟩
theorem r_8_addText_116 : RG M_X8_addText 116 8 0 119 := ⟨63, _, by decide +kernel, rfl, by decide, wd_f8_63, rfl, rfl⟩
theorem r_8_addText_119 : RA M_X8_addText 119 0 120 := Or.inl ⟨0, by decide +kernel, rfl, rfl⟩
theorem r_8_addText_120 : RG M_X8_addText 120 8 2 123 := ⟨40, _, by decide +kernel, rfl, by decide, wd_f8_40, rfl, rfl⟩
theorem r_8_addText_123 : RG M_X8_addText 123 1 2 126 := ⟨79, _, by decide +kernel, rfl, by decide, wd_f8_79, rfl, rfl⟩
theorem r_8_addText_126 : RW M_X8_addText 126 .iastore 127 1 := ⟨by decide +kernel, rfl⟩
theorem r_8_addText_127 : RA M_X8_addText 127 0 128 := Or.inl ⟨0, by decide +kernel, rfl, rfl⟩
theorem r_8_addText_128 : RG M_X8_addText 128 8 10 131 := ⟨37, _, by decide +kernel, rfl, by decide, wd_f8_37, rfl, rfl⟩
theorem r_8_addText_131 : RA M_X8_addText 131 0 132 := Or.inl ⟨0, by decide +kernel, rfl, rfl⟩
theorem r_8_addText_132 : RG M_X8_addText 132 8 0 135 := ⟨63, _, by decide +kernel, rfl, by decide, wd_f8_63, rfl, rfl⟩
theorem r_8_addText_135 : RL M_X8_addText 135 2 136 := Or.inl ⟨2, by decide +kernel, rfl, rfl⟩
theorem r_8_addText_136 : RW M_X8_addText 136 .iastore 137 1 := ⟨by decide +kernel, rfl⟩
theorem r_8_addText_137 : RA M_X8_addText 137 0 138 := Or.inl ⟨0, by decide +kernel, rfl, rfl⟩
theorem r_8_addText_138 : RW M_X8_addText 138 .dup 139 1 := ⟨by decide +kernel, rfl⟩
theorem r_8_addText_139 : RG M_X8_addText 139 8 0 142 := ⟨63, _, by decide +kernel, rfl, by decide, wd_f8_63, rfl, rfl⟩
theorem r_8_addText_142 : RC M_X8_addText 142 1 143 := ⟨⟨by decide, by decide⟩, Or.inl ⟨by decide +kernel, rfl⟩⟩
theorem r_8_addText_143 : RW M_X8_addText 143 .iadd 144 1 := ⟨by decide +kernel, rfl⟩
theorem r_8_addText_144 : RP M_X8_addText 144 8 0 147 := ⟨63, _, by decide +kernel, rfl, by decide, wd_f8_63, rfl, Or.inl rfl, rfl⟩
theorem r_8_addText_147 : RA M_X8_addText 147 0 148 := Or.inl ⟨0, by decide +kernel, rfl, rfl⟩
theorem r_8_addText_148 : RG M_X8_addText 148 8 0 151 := ⟨63, _, by decide +kernel, rfl, by decide, wd_f8_63, rfl, rfl⟩
theorem r_8_addText_151 : RC M_X8_addText 151 1 152 := ⟨⟨by decide, by decide⟩, Or.inl ⟨by decide +kernel, rfl⟩⟩
theorem r_8_addText_152 : RW M_X8_addText 152 .isub 153 1 := ⟨by decide +kernel, rfl⟩
theorem r_8_addText_153 : RW M_X8_addText 153 .ireturn 154 1 := ⟨by decide +kernel, rfl⟩
theorem r_8_addText_25 : RC M_X8_addText 25 (-2) 27 := ⟨⟨by decide, by decide⟩, Or.inr (Or.inl ⟨by decide +kernel, by decide, rfl⟩)⟩
theorem r_8_addText_27 : RW M_X8_addText 27 .ireturn 28 1 := ⟨by decide +kernel, rfl⟩
theorem r_11_text_0 : RA M_X11_text 0 0 1 := Or.inl ⟨0, by decide +kernel, rfl, rfl⟩
theorem r_11_text_1 : RG M_X11_text 1 11 3 4 := ⟨39, _, by decide +kernel, rfl, by decide, wd_f11_39, rfl, rfl⟩
theorem r_11_text_4 : RL M_X11_text 4 1 5 := Or.inl ⟨1, by decide +kernel, rfl, rfl⟩
theorem r_11_text_5 : RL M_X11_text 5 2 6 := Or.inl ⟨2, by decide +kernel, rfl, rfl⟩
theorem r_11_text_6 : RKv M_X11_text M_X8_addText 6 2 8 9 := ⟨142, by decide +kernel, wd_m11_142, ok_M_X8_addText, wd_s8_addText, rfl⟩
theorem r_11_text_9 : RW M_X11_text 9 .ireturn 10 1 := ⟨by decide +kernel, rfl⟩
theorem r_12_text_0 : RL M_X12_text 0 1 1 := Or.inl ⟨1, by decide +kernel, rfl, rfl⟩
theorem r_12_text_1 : RKs M_X12_text M_X12_isWhat 1 1 4 := ⟨373, by decide +kernel, Or.inl wd_m12_373, ok_M_X12_isWhat, rfl⟩
theorem r_12_text_4 : RB M_X12_text 4 (.ifCond .eq) 14 7 := ⟨10, by decide +kernel, rfl, rfl⟩
theorem r_12_text_14 : RC M_X12_text 14 (-1) 15 := ⟨⟨by decide, by decide⟩, Or.inl ⟨by decide +kernel, rfl⟩⟩
theorem r_12_text_15 : RW M_X12_text 15 .ireturn 16 1 := ⟨by decide +kernel, rfl⟩
theorem r_12_text_7 : RL M_X12_text 7 2 8 := Or.inl ⟨2, by decide +kernel, rfl, rfl⟩
theorem r_12_text_8 : RKs M_X12_text M_X12_isDay 8 1 11 := ⟨302, by decide +kernel, Or.inl wd_m12_302, ok_M_X12_isDay, rfl⟩
theorem r_12_text_11 : RB M_X12_text 11 (.ifCond .ne) 16 14 := ⟨5, by decide +kernel, rfl, rfl⟩
theorem r_12_text_16 : RA M_X12_text 16 0 17 := Or.inl ⟨0, by decide +kernel, rfl, rfl⟩
theorem r_12_text_17 : RG M_X12_text 17 12 42 20 := ⟨376, _, by decide +kernel, rfl, by decide, wd_f12_376, rfl, rfl⟩
theorem r_12_text_20 : RC M_X12_text 20 20 22 := ⟨⟨by decide, by decide⟩, Or.inr (Or.inl ⟨by decide +kernel, by decide, rfl⟩)⟩
theorem r_12_text_22 : RB M_X12_text 22 (.if_icmp .ne) 28 25 := ⟨6, by decide +kernel, rfl, rfl⟩
theorem r_12_text_28 : RA M_X12_text 28 0 29 := Or.inl ⟨0, by decide +kernel, rfl, rfl⟩
theorem r_12_text_29 : RC M_X12_text 29 (-1) 30 := ⟨⟨by decide, by decide⟩, Or.inl ⟨by decide +kernel, rfl⟩⟩
theorem r_12_text_30 : RA M_X12_text 30 0 31 := Or.inl ⟨0, by decide +kernel, rfl, rfl⟩
theorem r_12_text_31 : RG M_X12_text 31 12 36 34 := ⟨322, _, by decide +kernel, rfl, by decide, wd_f12_322, rfl, rfl⟩
theorem r_12_text_34 : RKv M_X12_text M_X12_workOut 34 2 12 37 := ⟨379, by decide +kernel, wd_m12_379, ok_M_X12_workOut, wd_s12_workOut, rfl⟩
theorem r_12_text_37 : RS M_X12_text 37 3 38 := ⟨by decide, Or.inl ⟨3, by decide +kernel, rfl, rfl⟩⟩
theorem r_12_text_38 : RA M_X12_text 38 0 39 := Or.inl ⟨0, by decide +kernel, rfl, rfl⟩
theorem r_12_text_39 : RG M_X12_text 39 12 36 42 := ⟨322, _, by decide +kernel, rfl, by decide, wd_f12_322, rfl, rfl⟩
theorem r_12_text_42 : RS M_X12_text 42 4 44 := ⟨by decide, Or.inr ⟨by decide +kernel, rfl⟩⟩
theorem r_12_text_44 : RA M_X12_text 44 0 45 := Or.inl ⟨0, by decide +kernel, rfl, rfl⟩
theorem r_12_text_45 : RC M_X12_text 45 0 46 := ⟨⟨by decide, by decide⟩, Or.inl ⟨by decide +kernel, rfl⟩⟩
theorem r_12_text_46 : RP M_X12_text 46 12 36 49 := ⟨322, _, by decide +kernel, rfl, by decide, wd_f12_322, rfl, Or.inl rfl, rfl⟩
theorem r_12_text_49 : RA M_X12_text 49 0 50 := Or.inl ⟨0, by decide +kernel, rfl, rfl⟩
theorem r_12_text_50 : RG M_X12_text 50 12 47 53 := ⟨334, _, by decide +kernel, rfl, by decide, wd_f12_334, rfl, rfl⟩
theorem r_12_text_53 : RB M_X12_text 53 (.ifCond .lt) 64 56 := ⟨11, by decide +kernel, rfl, rfl⟩
theorem r_12_text_56 : RC M_X12_text 56 (-100) 58 := ⟨⟨by decide, by decide⟩, Or.inr (Or.inl ⟨by decide +kernel, by decide, rfl⟩)⟩
theorem r_12_text_58 : RA M_X12_text 58 0 59 := Or.inl ⟨0, by decide +kernel, rfl, rfl⟩
theorem r_12_text_59 : RG M_X12_text 59 12 47 62 := ⟨334, _, by decide +kernel, rfl, by decide, wd_f12_334, rfl, rfl⟩
theorem r_12_text_62 : RW M_X12_text 62 .isub 63 1 := ⟨by decide +kernel, rfl⟩
theorem r_12_text_63 : RW M_X12_text 63 .ireturn 64 1 := ⟨by decide +kernel, rfl⟩
theorem r_12_text_64 : RC M_X12_text 64 0 65 := ⟨⟨by decide, by decide⟩, Or.inl ⟨by decide +kernel, rfl⟩⟩
theorem r_12_text_65 : RS M_X12_text 65 5 67 := ⟨by decide, Or.inr ⟨by decide +kernel, rfl⟩⟩
theorem r_12_text_67 : RL M_X12_text 67 5 69 := Or.inr ⟨by decide +kernel, rfl⟩
theorem r_12_text_69 : RL M_X12_text 69 4 71 := Or.inr ⟨by decide +kernel, rfl⟩
theorem r_12_text_71 : RB M_X12_text 71 (.if_icmp .ge) 103 74 := ⟨32, by decide +kernel, rfl, rfl⟩
theorem r_12_text_103 : RA M_X12_text 103 0 104 := Or.inl ⟨0, by decide +kernel, rfl, rfl⟩
theorem r_12_text_104 : RG M_X12_text 104 12 38 107 := ⟨100, _, by decide +kernel, rfl, by decide, wd_f12_100, rfl, rfl⟩
theorem r_12_text_107 : RA M_X12_text 107 0 108 := Or.inl ⟨0, by decide +kernel, rfl, rfl⟩
theorem r_12_text_108 : RG M_X12_text 108 12 42 111 := ⟨376, _, by decide +kernel, rfl, by decide, wd_f12_376, rfl, rfl⟩
theorem r_12_text_111 : RL M_X12_text 111 4 113 := Or.inr ⟨by decide +kernel, rfl⟩
theorem r_12_text_113 : RW M_X12_text 113 .iastore 114 1 := ⟨by decide +kernel, rfl⟩
theorem r_12_text_114 : RA M_X12_text 114 0 115 := Or.inl ⟨0, by decide +kernel, rfl, rfl⟩
theorem r_12_text_115 : RG M_X12_text 115 12 39 118 := ⟨103, _, by decide +kernel, rfl, by decide, wd_f12_103, rfl, rfl⟩
theorem r_12_text_118 : RA M_X12_text 118 0 119 := Or.inl ⟨0, by decide +kernel, rfl, rfl⟩
theorem r_12_text_119 : RG M_X12_text 119 12 42 122 := ⟨376, _, by decide +kernel, rfl, by decide, wd_f12_376, rfl, rfl⟩
theorem r_12_text_122 : RL M_X12_text 122 1 123 := Or.inl ⟨1, by decide +kernel, rfl, rfl⟩
theorem r_12_text_123 : RW M_X12_text 123 .iastore 124 1 := ⟨by decide +kernel, rfl⟩
theorem r_12_text_124 : RA M_X12_text 124 0 125 := Or.inl ⟨0, by decide +kernel, rfl, rfl⟩
theorem r_12_text_125 : RG M_X12_text 125 12 40 128 := ⟨106, _, by decide +kernel, rfl, by decide, wd_f12_106, rfl, rfl⟩
theorem r_12_text_128 : RA M_X12_text 128 0 129 := Or.inl ⟨0, by decide +kernel, rfl, rfl⟩
theorem r_12_text_129 : RG M_X12_text 129 12 42 132 := ⟨376, _, by decide +kernel, rfl, by decide, wd_f12_376, rfl, rfl⟩
theorem r_12_text_132 : RA M_X12_text 132 0 133 := Or.inl ⟨0, by decide +kernel, rfl, rfl⟩
theorem r_12_text_133 : RG M_X12_text 133 12 0 136 := ⟨268, _, by decide +kernel, rfl, by decide, wd_f12_268, rfl, rfl⟩
theorem r_12_text_136 : RW M_X12_text 136 .iastore 137 1 := ⟨by decide +kernel, rfl⟩
theorem r_12_text_137 : RA M_X12_text 137 0 138 := Or.inl ⟨0, by decide +kernel, rfl, rfl⟩
theorem r_12_text_138 : RG M_X12_text 138 12 41 141 := ⟨109, _, by decide +kernel, rfl, by decide, wd_f12_109, rfl, rfl⟩
theorem r_12_text_141 : RA M_X12_text 141 0 142 := Or.inl ⟨0, by decide +kernel, rfl, rfl⟩
theorem r_12_text_142 : RG M_X12_text 142 12 42 145 := ⟨376, _, by decide +kernel, rfl, by decide, wd_f12_376, rfl, rfl⟩
theorem r_12_text_145 : RL M_X12_text 145 2 146 := Or.inl ⟨2, by decide +kernel, rfl, rfl⟩
theorem r_12_text_146 : RW M_X12_text 146 .iastore 147 1 := ⟨by decide +kernel, rfl⟩
theorem r_12_text_147 : RA M_X12_text 147 0 148 := Or.inl ⟨0, by decide +kernel, rfl, rfl⟩
theorem r_12_text_148 : RW M_X12_text 148 .dup 149 1 := ⟨by decide +kernel, rfl⟩
theorem r_12_text_149 : RG M_X12_text 149 12 42 152 := ⟨376, _, by decide +kernel, rfl, by decide, wd_f12_376, rfl, rfl⟩
theorem r_12_text_152 : RC M_X12_text 152 1 153 := ⟨⟨by decide, by decide⟩, Or.inl ⟨by decide +kernel, rfl⟩⟩
theorem r_12_text_153 : RW M_X12_text 153 .iadd 154 1 := ⟨by decide +kernel, rfl⟩
theorem r_12_text_154 : RP M_X12_text 154 12 42 157 := ⟨376, _, by decide +kernel, rfl, by decide, wd_f12_376, rfl, Or.inl rfl, rfl⟩
theorem r_12_text_157 : RA M_X12_text 157 0 158 := Or.inl ⟨0, by decide +kernel, rfl, rfl⟩
theorem r_12_text_158 : RG M_X12_text 158 12 42 161 := ⟨376, _, by decide +kernel, rfl, by decide, wd_f12_376, rfl, rfl⟩
theorem r_12_text_161 : RC M_X12_text 161 1 162 := ⟨⟨by decide, by decide⟩, Or.inl ⟨by decide +kernel, rfl⟩⟩
theorem r_12_text_162 : RW M_X12_text 162 .isub 163 1 := ⟨by decide +kernel, rfl⟩
theorem r_12_text_163 : RW M_X12_text 163 .ireturn 164 1 := ⟨by decide +kernel, rfl⟩
theorem r_12_text_74 : RA M_X12_text 74 0 75 := Or.inl ⟨0, by decide +kernel, rfl, rfl⟩
theorem r_12_text_75 : RG M_X12_text 75 12 37 78 := ⟨97, _, by decide +kernel, rfl, by decide, wd_f12_97, rfl, rfl⟩
theorem r_12_text_78 : RC M_X12_text 78 160 81 := ⟨⟨by decide, by decide⟩, Or.inr (Or.inr (Or.inl ⟨by decide +kernel, by decide, rfl⟩))⟩
theorem r_12_text_81 : RA M_X12_text 81 0 82 := Or.inl ⟨0, by decide +kernel, rfl, rfl⟩
theorem r_12_text_82 : RG M_X12_text 82 12 42 85 := ⟨376, _, by decide +kernel, rfl, by decide, wd_f12_376, rfl, rfl⟩
theorem r_12_text_85 : RW M_X12_text 85 .imul 86 1 := ⟨by decide +kernel, rfl⟩
theorem r_12_text_86 : RL M_X12_text 86 5 88 := Or.inr ⟨by decide +kernel, rfl⟩
theorem r_12_text_88 : RW M_X12_text 88 .iadd 89 1 := ⟨by decide +kernel, rfl⟩
theorem r_12_text_89 : RA M_X12_text 89 0 90 := Or.inl ⟨0, by decide +kernel, rfl, rfl⟩
theorem r_12_text_90 : RG M_X12_text 90 12 35 93 := ⟨94, _, by decide +kernel, rfl, by decide, wd_f12_94, rfl, rfl⟩
theorem r_12_text_93 : RL M_X12_text 93 5 95 := Or.inr ⟨by decide +kernel, rfl⟩
theorem r_12_text_95 : RW M_X12_text 95 .iaload 96 1 := ⟨by decide +kernel, rfl⟩
theorem r_12_text_96 : RW M_X12_text 96 .iastore 97 1 := ⟨by decide +kernel, rfl⟩
theorem r_12_text_97 : RI M_X12_text 97 5 1 100 := ⟨by decide, by decide +kernel, rfl⟩
theorem r_12_text_100 : RB M_X12_text 100 .goto 67 103 := ⟨(-33), by decide +kernel, rfl, rfl⟩
theorem r_12_text_25 : RC M_X12_text 25 (-2) 27 := ⟨⟨by decide, by decide⟩, Or.inr (Or.inl ⟨by decide +kernel, by decide, rfl⟩)⟩
theorem r_12_text_27 : RW M_X12_text 27 .ireturn 28 1 := ⟨by decide +kernel, rfl⟩
set_option maxRecDepth 10000 in
theorem sp_X8_addText {l : Launch} {w : Wo} {d : Nat} {G : PH} {P : Option PV → PH → Prop} {u f0 : Int} {b : Int → Int} (htp : 0 ≤ (gF G 8 0 1) ∧ (gF G 8 0 1) ≤ 160) (htx : 0 ≤ (gF G 8 0 0) ∧ (gF G 8 0 0) ≤ 20) (hb : ∀ j, 0 ≤ j → j < (gF G 8 0 1) → b j = pAnd (gA G 76 0 (j)) 255) (hby : ∀ j, 0 ≤ j → j < (gF G 8 0 1) → -128 ≤ (gA G 76 0 (j)) ∧ (gA G 76 0 (j)) ≤ 127) (h1 : ¬ (((0 ≤ u ∧ u ≤ 39) ∧ u % 10 ≤ 2) ∧ 0 ≤ f0 ∧ f0 ≤ 600) → P (some (vI (-1))) G) (h2 : (((0 ≤ u ∧ u ≤ 39) ∧ u % 10 ≤ 2) ∧ 0 ≤ f0 ∧ f0 ≤ 600) → 20 ≤ (gF G 8 0 0) → P (some (vI (-2))) G) (h3 : (((0 ≤ u ∧ u ≤ 39) ∧ u % 10 ≤ 2) ∧ 0 ≤ f0 ∧ f0 ≤ 600) → (gF G 8 0 0) < 20 → ∀ f l, EvT b (gF G 8 0 1) 0 (.inl f) → 0 ≤ f → f ≤ (gF G 8 0 1) → P (some (vI (-100 - f))) (sF (sF (sF (sF (sD (sF G 8 0 1 0) 4 0 3 (some (76, 0))) 4 0 1 (f)) 4 0 2 (l)) 4 0 4 ((gF G 8 0 1))) 4 0 5 (f))) (h4 : (((0 ≤ u ∧ u ≤ 39) ∧ u % 10 ≤ 2) ∧ 0 ≤ f0 ∧ f0 ≤ 600) → (gF G 8 0 0) < 20 → ∀ l L, EvT b (gF G 8 0 1) 0 (.inr L) → P (some (vI (gF G 8 0 0))) (sF (sA (sA (sA (sA (uA (sF (sF (sF (sF (sD (sF G 8 0 1 0) 4 0 3 (some (76, 0))) 4 0 1 (-1)) 4 0 2 (l)) 4 0 4 ((gF G 8 0 1))) 4 0 5 ((gF G 8 0 1))) 78 ((gF G 8 0 0)) (cpF (gA G 76 0) (gA G 78 (gF G 8 0 0)) (gF G 8 0 1))) 79 0 ((gF G 8 0 0)) ((gF G 8 0 1))) 80 0 ((gF G 8 0 0)) (u)) 81 0 ((gF G 8 0 0)) ((gF G 1 0 2))) 82 0 ((gF G 8 0 0)) (f0)) 8 0 0 ((gF G 8 0 0) + 1))) : PW l w M_X8_addText (d + 127) 0 [some (vR 8 (0)), some (vI (u)), some (vI (f0)), none] [] G P := by
  refine pw_iload r_8_addText_0 rfl ?_
  refine pw_callS (av := [vI (u)]) (st := []) (ls0 := [some (vI (u))]) r_8_addText_1 rfl rfl rfl (Nat.le_refl _) ?_
  refine sp_X8_isPurpose  ?_
  refine pw_if_eqB r_8_addText_4 (fun h04 => ?_) (fun h04 => ?_)
  · skip
    refine pw_const r_8_addText_14 ?_
    refine pw_iret r_8_addText_15 rfl (Nat.le_refl _) ⟨rfl, ?_⟩
    first | exact h1 (by omega) | exact h2 (by omega) (by omega)
  · skip
    refine pw_iload r_8_addText_7 rfl ?_
    refine pw_callS (av := [vI (f0)]) (st := []) (ls0 := [some (vI (f0))]) r_8_addText_8 rfl rfl rfl (Nat.le_refl _) ?_
    refine sp_X11_isDay  ?_
    refine pw_if_neB r_8_addText_11 (fun h11 => ?_) (fun h11 => ?_)
    · skip
      refine pw_aload r_8_addText_16 rfl ?_
      refine pw_getI r_8_addText_17 fs_8_0 (by decide) ?_
      refine pw_const r_8_addText_20 ?_
      refine pw_icmp_lt r_8_addText_22 (fun h22 => ?_) (fun h22 => ?_)
      · skip
        refine pw_aload r_8_addText_28 rfl ?_
        refine pw_getI r_8_addText_29 fs_8_1 (by decide) ?_
        refine pw_istore (ls' := [some (vR 8 (0)), some (vI (u)), some (vI (f0)), some (vI (gF G 8 (0) 1))]) r_8_addText_32 rfl rfl ?_
        refine pw_aload r_8_addText_33 rfl ?_
        refine pw_const r_8_addText_34 ?_
        refine pw_putI r_8_addText_35 (by decide +kernel) fs_8_1 (by decide) ?_
        refine pw_aload r_8_addText_38 rfl ?_
        refine pw_getR r_8_addText_39 fs_8_4 (by decide) ?_
        refine pw_aload r_8_addText_42 rfl ?_
        refine pw_getR r_8_addText_43 fs_8_5 (by decide) ?_
        refine pw_iload r_8_addText_46 rfl ?_
        refine pw_callV (av := [vR 76 (0), vI (gF G 8 (0) 1)]) (st := []) (ls0 := [some (vR 4 (0)), some (vR 76 (0)), some (vI (gF G 8 (0) 1)), none, none, none, none, none]) r_8_addText_47 rfl rfl rfl (Nat.le_refl _) ?_
        refine sp_X4_readAll (cb := 76) (rb := 0) (n := (gF G 8 0 1)) (b := b) (e := (gA G 46 0)) (sh76) (by exact hb) (by intro j _ _; rfl) (htp) ?_ ?_
        · skip
          intro f1 v1 l1 q1 q2 q3
          refine pw_pop r_8_addText_50 rfl ?_
          refine pw_aload r_8_addText_51 rfl ?_
          refine pw_getR r_8_addText_52 fs_8_4 (by decide) ?_
          refine pw_getIv (v := f1) r_8_addText_55 fs_4_1 (by decide) (by first | rfl | simp [gF_sF, gF_sA, gF_uA, gF_sD, gA_sF, gA_sA, gA_uA, gA_sD, gD_sF, gD_sA, gD_uA, gD_sD]) ?_
          refine pw_if_lt r_8_addText_58 (fun h58 => absurd h58 (by omega)) (fun h58 => ?_)
          refine pw_const r_8_addText_61 ?_
          refine pw_aload r_8_addText_63 rfl ?_
          refine pw_getR r_8_addText_64 fs_8_4 (by decide) ?_
          refine pw_getIv (v := f1) r_8_addText_67 fs_4_1 (by decide) (by first | rfl | simp [gF_sF, gF_sA, gF_uA, gF_sD, gA_sF, gA_sA, gA_uA, gA_sD, gD_sF, gD_sA, gD_uA, gD_sD]) ?_
          refine pw_isub r_8_addText_70 (by omega) ?_
          refine pw_iret r_8_addText_71 rfl (Nat.le_refl _) ⟨rfl, ?_⟩
          exact h3 (by omega) (by omega) f1 l1 q1 q2 q3
        · skip
          intro L1 q1
          refine pw_pop r_8_addText_50 rfl ?_
          refine pw_aload r_8_addText_51 rfl ?_
          refine pw_getR r_8_addText_52 fs_8_4 (by decide) ?_
          refine pw_getIv (v := -1) r_8_addText_55 fs_4_1 (by decide) (by first | rfl | simp [gF_sF, gF_sA, gF_uA, gF_sD, gA_sF, gA_sA, gA_uA, gA_sD, gD_sF, gD_sA, gD_uA, gD_sD]) ?_
          refine pw_if_lt r_8_addText_58 (fun h58 => ?_) (fun h58 => absurd h58 (by decide))
          refine pw_aload r_8_addText_72 rfl ?_
          refine pw_getR r_8_addText_73 fs_8_5 (by decide) ?_
          refine pw_const r_8_addText_76 ?_
          refine pw_aload r_8_addText_77 rfl ?_
          refine pw_getR r_8_addText_78 fs_8_6 (by decide) ?_
          refine pw_aload r_8_addText_81 rfl ?_
          refine pw_getIv (v := gF G 8 (0) 0) r_8_addText_82 fs_8_0 (by decide) (by first | rfl | simp [gF_sF, gF_sA, gF_uA, gF_sD, gA_sF, gA_sA, gA_uA, gA_sD, gD_sF, gD_sA, gD_uA, gD_sD]) ?_
          refine pw_aaldS r_8_addText_85 sh77 (by decide) (by decide) aS77 rw78 (by omega) (by omega) ?_
          refine pw_const r_8_addText_86 ?_
          refine pw_iload r_8_addText_87 rfl ?_
          refine pw_acopy (t := 1) r_8_addText_88 sh76 sh78 (by decide) (by omega) (by omega) (by omega) (fun j j0 j1 => fits_by (hby j j0 j1)) rfl (Nat.le_of_ble_eq_true rfl) (by decide) ?_
          refine pw_eqG (G' := uA (sF (sF (sF (sF (sD (sF G 8 (0) 1 (0)) 4 (0) (3) (some (76, 0))) 4 (0) 1 (-1)) 4 (0) 2 ((pick (gA G 46 0) L1 0).1)) 4 (0) 4 ((gF G 8 0 1))) 4 (0) 5 ((gF G 8 0 1))) 78 (gF G 8 (0) 0) (cpF (gA G 76 0) (gA G 78 (gF G 8 (0) 0)) (gF G 8 (0) 1))) (rfl) ?_
          refine pw_aload r_8_addText_91 rfl ?_
          refine pw_getR r_8_addText_92 fs_8_7 (by decide) ?_
          refine pw_aload r_8_addText_95 rfl ?_
          refine pw_getIv (v := gF G 8 (0) 0) r_8_addText_96 fs_8_0 (by decide) (by first | rfl | simp [gF_sF, gF_sA, gF_uA, gF_sD, gA_sF, gA_sA, gA_uA, gA_sD, gD_sF, gD_sA, gD_uA, gD_sD]) ?_
          refine pw_iload r_8_addText_99 rfl ?_
          refine pw_iast r_8_addText_100 sh79 (by omega) (by omega) ?_
          refine pw_aload r_8_addText_101 rfl ?_
          refine pw_getR r_8_addText_102 fs_8_8 (by decide) ?_
          refine pw_aload r_8_addText_105 rfl ?_
          refine pw_getIv (v := gF G 8 (0) 0) r_8_addText_106 fs_8_0 (by decide) (by first | rfl | simp [gF_sF, gF_sA, gF_uA, gF_sD, gA_sF, gA_sA, gA_uA, gA_sD, gD_sF, gD_sA, gD_uA, gD_sD]) ?_
          refine pw_iload r_8_addText_109 rfl ?_
          refine pw_iast r_8_addText_110 sh80 (by omega) (by omega) ?_
          refine pw_aload r_8_addText_111 rfl ?_
          refine pw_getR r_8_addText_112 fs_8_9 (by decide) ?_
          refine pw_aload r_8_addText_115 rfl ?_
          refine pw_getIv (v := gF G 8 (0) 0) r_8_addText_116 fs_8_0 (by decide) (by first | rfl | simp [gF_sF, gF_sA, gF_uA, gF_sD, gA_sF, gA_sA, gA_uA, gA_sD, gD_sF, gD_sA, gD_uA, gD_sD]) ?_
          refine pw_aload r_8_addText_119 rfl ?_
          refine pw_getR r_8_addText_120 fs_8_2 (by decide) ?_
          refine pw_getIv (v := gF G 1 (0) 2) r_8_addText_123 fs_1_2 (by decide) (by first | rfl | simp [gF_sF, gF_sA, gF_uA, gF_sD, gA_sF, gA_sA, gA_uA, gA_sD, gD_sF, gD_sA, gD_uA, gD_sD]) ?_
          refine pw_iast r_8_addText_126 sh81 (by omega) (by omega) ?_
          refine pw_aload r_8_addText_127 rfl ?_
          refine pw_getR r_8_addText_128 fs_8_10 (by decide) ?_
          refine pw_aload r_8_addText_131 rfl ?_
          refine pw_getIv (v := gF G 8 (0) 0) r_8_addText_132 fs_8_0 (by decide) (by first | rfl | simp [gF_sF, gF_sA, gF_uA, gF_sD, gA_sF, gA_sA, gA_uA, gA_sD, gD_sF, gD_sA, gD_uA, gD_sD]) ?_
          refine pw_iload r_8_addText_135 rfl ?_
          refine pw_iast r_8_addText_136 sh82 (by omega) (by omega) ?_
          refine pw_aload r_8_addText_137 rfl ?_
          refine pw_dup r_8_addText_138 rfl ?_
          refine pw_getIv (v := gF G 8 (0) 0) r_8_addText_139 fs_8_0 (by decide) (by first | rfl | simp [gF_sF, gF_sA, gF_uA, gF_sD, gA_sF, gA_sA, gA_uA, gA_sD, gD_sF, gD_sA, gD_uA, gD_sD]) ?_
          refine pw_const r_8_addText_142 ?_
          refine pw_iadd r_8_addText_143 (by omega) ?_
          refine pw_putI r_8_addText_144 (by decide +kernel) fs_8_0 (by decide) ?_
          refine pw_aload r_8_addText_147 rfl ?_
          refine pw_getIv (v := ((gF G 8 (0) 0) + 1)) r_8_addText_148 fs_8_0 (by decide) (by first | rfl | simp [gF_sF, gF_sA, gF_uA, gF_sD, gA_sF, gA_sA, gA_uA, gA_sD, gD_sF, gD_sA, gD_uA, gD_sD]) ?_
          refine pw_const r_8_addText_151 ?_
          refine pw_isub r_8_addText_152 (by omega) ?_
          refine pw_iret r_8_addText_153 rfl (Nat.le_refl _) ⟨rfl, ?_⟩
          refine pe (h4 (by omega) (by omega) _ L1 q1) (by omega)
      · skip
        refine pw_const r_8_addText_25 ?_
        refine pw_iret r_8_addText_27 rfl (Nat.le_refl _) ⟨rfl, ?_⟩
        first | exact h1 (by omega) | exact h2 (by omega) (by omega)
    · skip
      refine pw_const r_8_addText_14 ?_
      refine pw_iret r_8_addText_15 rfl (Nat.le_refl _) ⟨rfl, ?_⟩
      first | exact h1 (by omega) | exact h2 (by omega) (by omega)
set_option maxRecDepth 10000 in
theorem sp_X11_text {l : Launch} {w : Wo} {d : Nat} {G : PH} {P : Option PV → PH → Prop} {u f0 : Int} {b : Int → Int} (htp : 0 ≤ (gF G 8 0 1) ∧ (gF G 8 0 1) ≤ 160) (htx : 0 ≤ (gF G 8 0 0) ∧ (gF G 8 0 0) ≤ 20) (hb : ∀ j, 0 ≤ j → j < (gF G 8 0 1) → b j = pAnd (gA G 76 0 (j)) 255) (hby : ∀ j, 0 ≤ j → j < (gF G 8 0 1) → -128 ≤ (gA G 76 0 (j)) ∧ (gA G 76 0 (j)) ≤ 127) (h1 : ¬ (((0 ≤ u ∧ u ≤ 39) ∧ u % 10 ≤ 2) ∧ 0 ≤ f0 ∧ f0 ≤ 600) → P (some (vI (-1))) G) (h2 : (((0 ≤ u ∧ u ≤ 39) ∧ u % 10 ≤ 2) ∧ 0 ≤ f0 ∧ f0 ≤ 600) → 20 ≤ (gF G 8 0 0) → P (some (vI (-2))) G) (h3 : (((0 ≤ u ∧ u ≤ 39) ∧ u % 10 ≤ 2) ∧ 0 ≤ f0 ∧ f0 ≤ 600) → (gF G 8 0 0) < 20 → ∀ f l, EvT b (gF G 8 0 1) 0 (.inl f) → 0 ≤ f → f ≤ (gF G 8 0 1) → P (some (vI (-100 - f))) (sF (sF (sF (sF (sD (sF G 8 0 1 0) 4 0 3 (some (76, 0))) 4 0 1 (f)) 4 0 2 (l)) 4 0 4 ((gF G 8 0 1))) 4 0 5 (f))) (h4 : (((0 ≤ u ∧ u ≤ 39) ∧ u % 10 ≤ 2) ∧ 0 ≤ f0 ∧ f0 ≤ 600) → (gF G 8 0 0) < 20 → ∀ l L, EvT b (gF G 8 0 1) 0 (.inr L) → P (some (vI (gF G 8 0 0))) (sF (sA (sA (sA (sA (uA (sF (sF (sF (sF (sD (sF G 8 0 1 0) 4 0 3 (some (76, 0))) 4 0 1 (-1)) 4 0 2 (l)) 4 0 4 ((gF G 8 0 1))) 4 0 5 ((gF G 8 0 1))) 78 ((gF G 8 0 0)) (cpF (gA G 76 0) (gA G 78 (gF G 8 0 0)) (gF G 8 0 1))) 79 0 ((gF G 8 0 0)) ((gF G 8 0 1))) 80 0 ((gF G 8 0 0)) (u)) 81 0 ((gF G 8 0 0)) ((gF G 1 0 2))) 82 0 ((gF G 8 0 0)) (f0)) 8 0 0 ((gF G 8 0 0) + 1))) : PW l w M_X11_text (d + 128) 0 [some (vR 11 (0)), some (vI (u)), some (vI (f0))] [] G P := by
  refine pw_aload r_11_text_0 rfl ?_
  refine pw_getR r_11_text_1 fs_11_3 (by decide) ?_
  refine pw_iload r_11_text_4 rfl ?_
  refine pw_iload r_11_text_5 rfl ?_
  refine pw_callV (av := [vI (u), vI (f0)]) (st := []) (ls0 := [some (vR 8 (0)), some (vI (u)), some (vI (f0)), none]) r_11_text_6 rfl rfl rfl (Nat.le_refl _) ?_
  refine sp_X8_addText (by first | assumption | exact htp | omega) (by first | assumption | exact htx | omega) (by first | assumption | exact hb | omega) (by first | assumption | exact hby | omega) ?_ ?_ ?_ ?_
  · skip
    intro q1
    refine pw_iret r_11_text_9 rfl (Nat.le_refl _) ⟨rfl, ?_⟩
    exact h1 q1
  · skip
    intro q1 q2
    refine pw_iret r_11_text_9 rfl (Nat.le_refl _) ⟨rfl, ?_⟩
    exact h2 q1 q2
  · skip
    intro q1 q2 f l q3 q4 q5
    refine pw_eqG (G' := sF (sF (sF (sF (sD (sF G 8 (0) 1 (0)) 4 (0) (3) (some (76, 0))) 4 (0) 1 (f)) 4 (0) 2 (l)) 4 (0) 4 ((gF G 8 (0) 1))) 4 (0) 5 (f)) (by first | rfl | simp (disch := decide) [gF_sF, gF_sA, gF_uA, gF_sD, gA_sF, gA_sA, gA_uA, gA_sD, gD_sF, gD_sA, gD_uA, gD_sD]) ?_
    refine pw_iret r_11_text_9 rfl (Nat.le_refl _) ⟨rfl, ?_⟩
    exact h3 q1 q2 f l q3 q4 q5
  · skip
    intro q1 q2 l L q3
    refine pw_eqG (G' := sF (sA (sA (sA (sA (uA (sF (sF (sF (sF (sD (sF G 8 (0) 1 (0)) 4 (0) (3) (some (76, 0))) 4 (0) 1 (-1)) 4 (0) 2 (l)) 4 (0) 4 ((gF G 8 (0) 1))) 4 (0) 5 ((gF G 8 (0) 1))) 78 ((gF G 8 (0) 0)) (cpF (gA G 76 0) (gA G 78 (gF G 8 0 0)) (gF G 8 (0) 1))) 79 (0) ((gF G 8 (0) 0)) ((gF G 8 (0) 1))) 80 (0) ((gF G 8 (0) 0)) (u)) 81 (0) ((gF G 8 (0) 0)) ((gF G 1 (0) 2))) 82 (0) ((gF G 8 (0) 0)) (f0)) 8 (0) 0 ((gF G 8 (0) 0) + 1)) (by first | rfl | simp (disch := decide) [gF_sF, gF_sA, gF_uA, gF_sD, gA_sF, gA_sA, gA_uA, gA_sD, gD_sF, gD_sA, gD_uA, gD_sD]) ?_
    refine pw_iret r_11_text_9 rfl (Nat.le_refl _) ⟨rfl, ?_⟩
    exact h4 q1 q2 l L q3
set_option maxRecDepth 10000 in
theorem sp_X12_text {l : Launch} {w : Wo} {d : Nat} {G : PH} {P : Option PV → PH → Prop} {u f0 : Int} {b : Int → Int} (htp : 0 ≤ (gF G 12 0 36) ∧ (gF G 12 0 36) ≤ 160) (htx : 0 ≤ (gF G 12 0 42) ∧ (gF G 12 0 42) ≤ 20) (hb : ∀ j, 0 ≤ j → j < (gF G 12 0 36) → b j = (gA G 228 0 (j))) (h1 : ¬ (((0 ≤ u ∧ u ≤ 39) ∧ u % 10 ≤ 2) ∧ 0 ≤ f0 ∧ f0 ≤ 600) → P (some (vI (-1))) G) (h2 : (((0 ≤ u ∧ u ≤ 39) ∧ u % 10 ≤ 2) ∧ 0 ≤ f0 ∧ f0 ≤ 600) → (gF G 12 0 42) = 20 → P (some (vI (-2))) G) (h3 : (((0 ≤ u ∧ u ≤ 39) ∧ u % 10 ≤ 2) ∧ 0 ≤ f0 ∧ f0 ≤ 600) → (gF G 12 0 42) < 20 → ∀ f x l, EvT b (gF G 12 0 36) 0 (.inl f) → 0 ≤ f → f ≤ (gF G 12 0 36) → P (some (vI (-100 - f))) (sF (sF (sF (sF (sF (sF (sF G 12 0 44 (-1)) 12 0 45 (f)) 12 0 46 ((gF G 12 0 36))) 12 0 47 (f)) 12 0 48 (x)) 12 0 50 (l)) 12 0 36 (0))) (h4 : (((0 ≤ u ∧ u ≤ 39) ∧ u % 10 ≤ 2) ∧ 0 ≤ f0 ∧ f0 ≤ 600) → (gF G 12 0 42) < 20 → ∀ l L, EvT b (gF G 12 0 36) 0 (.inr L) → P (some (vI (gF G 12 0 42))) (sF (sA (sA (sA (sA (uA (sF (sF (sF (sF (sF (sF (sF G 12 0 44 (-1)) 12 0 45 ((gF G 12 0 36))) 12 0 46 ((gF G 12 0 36))) 12 0 47 (-1)) 12 0 48 (0)) 12 0 50 (l)) 12 0 36 (0)) 229 0 (filF (fun j0 => 160 * (gF G 12 0 42) ≤ j0) (fun j0 => gA G 228 0 (j0 - 160 * (gF G 12 0 42))) (gA G 229 0) (160 * (gF G 12 0 42) + (gF G 12 0 36)))) 230 0 ((gF G 12 0 42)) ((gF G 12 0 36))) 231 0 ((gF G 12 0 42)) (u)) 232 0 ((gF G 12 0 42)) ((gF G 12 0 0))) 233 0 ((gF G 12 0 42)) (f0)) 12 0 42 ((gF G 12 0 42) + 1))) : PW l w M_X12_text (d + 97) 0 [some (vR 12 (0)), some (vI (u)), some (vI (f0)), none, none, none] [] G P := by
  refine pw_iload r_12_text_0 rfl ?_
  refine pw_callS (av := [vI (u)]) (st := []) (ls0 := [some (vI (u))]) r_12_text_1 rfl rfl rfl (Nat.le_refl _) ?_
  refine sp_X12_isWhat  ?_
  refine pw_if_eqB r_12_text_4 (fun h04 => ?_) (fun h04 => ?_)
  · skip
    refine pw_const r_12_text_14 ?_
    refine pw_iret r_12_text_15 rfl (Nat.le_refl _) ⟨rfl, ?_⟩
    first | exact h1 (by omega) | exact h2 (by omega) (by omega)
  · skip
    refine pw_iload r_12_text_7 rfl ?_
    refine pw_callS (av := [vI (f0)]) (st := []) (ls0 := [some (vI (f0))]) r_12_text_8 rfl rfl rfl (Nat.le_refl _) ?_
    refine sp_X12_isDay  ?_
    refine pw_if_neB r_12_text_11 (fun h11 => ?_) (fun h11 => ?_)
    · skip
      refine pw_aload r_12_text_16 rfl ?_
      refine pw_getI r_12_text_17 fs_12_42 (by decide) ?_
      refine pw_const r_12_text_20 ?_
      refine pw_icmp_ne r_12_text_22 (fun h22 => ?_) (fun h22 => ?_)
      · skip
        refine pw_aload r_12_text_28 rfl ?_
        refine pw_const r_12_text_29 ?_
        refine pw_aload r_12_text_30 rfl ?_
        refine pw_getI r_12_text_31 fs_12_36 (by decide) ?_
        refine pw_callV (av := [vI ((-1)), vI (gF G 12 (0) 36)]) (st := []) (ls0 := [some (vR 12 (0)), some (vI ((-1))), some (vI (gF G 12 (0) 36)), none, none, none, none, none]) r_12_text_34 rfl rfl rfl (Nat.le_refl _) ?_
        refine sp_X12_workOut (bs := (-1)) (n := (gF G 12 0 36)) (b := b) (e := (gA G 235 0)) (fun j j0 j1 => (hb j j0 j1).trans (if_pos (by decide)).symm) (by decide) (fun j _ _ => rfl) (htp) ?_ ?_
        · skip
          intro f1 v1 x1 l1 q1 q2 q3
          refine pw_istore (ls' := [some (vR 12 (0)), some (vI (u)), some (vI (f0)), some (vI (v1)), none, none]) r_12_text_37 rfl rfl ?_
          refine pw_aload r_12_text_38 rfl ?_
          refine pw_getIv (v := gF G 12 (0) 36) r_12_text_39 fs_12_36 (by decide) (by first | rfl | simp [gF_sF, gF_sA, gF_uA, gF_sD, gA_sF, gA_sA, gA_uA, gA_sD, gD_sF, gD_sA, gD_uA, gD_sD]) ?_
          refine pw_istore (ls' := [some (vR 12 (0)), some (vI (u)), some (vI (f0)), some (vI (v1)), some (vI (gF G 12 (0) 36)), none]) r_12_text_42 rfl rfl ?_
          refine pw_aload r_12_text_44 rfl ?_
          refine pw_const r_12_text_45 ?_
          refine pw_putI r_12_text_46 (by decide +kernel) fs_12_36 (by decide) ?_
          refine pw_aload r_12_text_49 rfl ?_
          refine pw_getIv (v := f1) r_12_text_50 fs_12_47 (by decide) (by first | rfl | simp [gF_sF, gF_sA, gF_uA, gF_sD, gA_sF, gA_sA, gA_uA, gA_sD, gD_sF, gD_sA, gD_uA, gD_sD]) ?_
          refine pw_if_lt r_12_text_53 (fun h53 => absurd h53 (by omega)) (fun h53 => ?_)
          refine pw_const r_12_text_56 ?_
          refine pw_aload r_12_text_58 rfl ?_
          refine pw_getIv (v := f1) r_12_text_59 fs_12_47 (by decide) (by first | rfl | simp [gF_sF, gF_sA, gF_uA, gF_sD, gA_sF, gA_sA, gA_uA, gA_sD, gD_sF, gD_sA, gD_uA, gD_sD]) ?_
          refine pw_isub r_12_text_62 (by omega) ?_
          refine pw_iret r_12_text_63 rfl (Nat.le_refl _) ⟨rfl, ?_⟩
          exact h3 (by omega) (by omega) f1 x1 l1 q1 q2 q3
        · skip
          intro L1 q1
          refine pw_istore (ls' := [some (vR 12 (0)), some (vI (u)), some (vI (f0)), some (vI ((pick (gA G 235 0) L1 0).2)), none, none]) r_12_text_37 rfl rfl ?_
          refine pw_aload r_12_text_38 rfl ?_
          refine pw_getIv (v := gF G 12 (0) 36) r_12_text_39 fs_12_36 (by decide) (by first | rfl | simp [gF_sF, gF_sA, gF_uA, gF_sD, gA_sF, gA_sA, gA_uA, gA_sD, gD_sF, gD_sA, gD_uA, gD_sD]) ?_
          refine pw_istore (ls' := [some (vR 12 (0)), some (vI (u)), some (vI (f0)), some (vI ((pick (gA G 235 0) L1 0).2)), some (vI (gF G 12 (0) 36)), none]) r_12_text_42 rfl rfl ?_
          refine pw_aload r_12_text_44 rfl ?_
          refine pw_const r_12_text_45 ?_
          refine pw_putI r_12_text_46 (by decide +kernel) fs_12_36 (by decide) ?_
          refine pw_aload r_12_text_49 rfl ?_
          refine pw_getIv (v := -1) r_12_text_50 fs_12_47 (by decide) (by first | rfl | simp [gF_sF, gF_sA, gF_uA, gF_sD, gA_sF, gA_sA, gA_uA, gA_sD, gD_sF, gD_sA, gD_uA, gD_sD]) ?_
          refine pw_if_lt r_12_text_53 (fun h53 => ?_) (fun h53 => absurd h53 (by decide))
          refine pw_const r_12_text_64 ?_
          refine pw_istore (ls' := [some (vR 12 (0)), some (vI (u)), some (vI (f0)), some (vI ((pick (gA G 235 0) L1 0).2)), some (vI (gF G 12 (0) 36)), some (vI (0))]) r_12_text_65 rfl rfl ?_
          have L67 : ∀ (nF : Nat) (i : Int), (hi : 0 ≤ i ∧ i ≤ (gF G 12 0 36)) → ((gF G 12 0 36) - i).toNat < nF → PW l w M_X12_text (d + 97) 67 [some (vR 12 (0)), some (vI (u)), some (vI (f0)), some (vI ((pick (gA G 235 0) L1 0).2)), some (vI (gF G 12 (0) 36)), some (vI (i))] [] (uA (sF (sF (sF (sF (sF (sF (sF G 12 (0) 44 ((-1))) 12 (0) 45 ((gF G 12 0 36))) 12 (0) 46 ((gF G 12 0 36))) 12 (0) 47 (-1)) 12 (0) 48 (0)) 12 (0) 50 ((pick (gA G 235 0) L1 0).1)) 12 (0) 36 (0)) 229 (0) (filF (fun j0 => 160 * (gF G 12 0 42) ≤ j0) (fun j0 => gA G 228 0 (j0 - 160 * (gF G 12 0 42))) (gA G 229 0) (160 * (gF G 12 0 42) + i))) P := by
            intro nF
            induction nF with
            | zero => intro _ _ hM; exact absurd hM (Nat.not_lt_zero _)
            | succ nF ih67 =>
              intro i hi hM67
              refine pw_iload r_12_text_67 rfl ?_
              refine pw_iload r_12_text_69 rfl ?_
              refine pw_icmp_ge r_12_text_71 (fun h71 => ?_) (fun h71 => ?_)
              · skip
                have ei : i = (gF G 12 0 36) := by omega
                subst ei
                refine pw_aload r_12_text_103 rfl ?_
                refine pw_getR r_12_text_104 fs_12_38 (by decide) ?_
                refine pw_aload r_12_text_107 rfl ?_
                refine pw_getIv (v := gF G 12 (0) 42) r_12_text_108 fs_12_42 (by decide) (by first | rfl | simp [gF_sF, gF_sA, gF_uA, gF_sD, gA_sF, gA_sA, gA_uA, gA_sD, gD_sF, gD_sA, gD_uA, gD_sD]) ?_
                refine pw_iload r_12_text_111 rfl ?_
                refine pw_iast r_12_text_113 sh230 (by omega) (by omega) ?_
                refine pw_aload r_12_text_114 rfl ?_
                refine pw_getR r_12_text_115 fs_12_39 (by decide) ?_
                refine pw_aload r_12_text_118 rfl ?_
                refine pw_getIv (v := gF G 12 (0) 42) r_12_text_119 fs_12_42 (by decide) (by first | rfl | simp [gF_sF, gF_sA, gF_uA, gF_sD, gA_sF, gA_sA, gA_uA, gA_sD, gD_sF, gD_sA, gD_uA, gD_sD]) ?_
                refine pw_iload r_12_text_122 rfl ?_
                refine pw_iast r_12_text_123 sh231 (by omega) (by omega) ?_
                refine pw_aload r_12_text_124 rfl ?_
                refine pw_getR r_12_text_125 fs_12_40 (by decide) ?_
                refine pw_aload r_12_text_128 rfl ?_
                refine pw_getIv (v := gF G 12 (0) 42) r_12_text_129 fs_12_42 (by decide) (by first | rfl | simp [gF_sF, gF_sA, gF_uA, gF_sD, gA_sF, gA_sA, gA_uA, gA_sD, gD_sF, gD_sA, gD_uA, gD_sD]) ?_
                refine pw_aload r_12_text_132 rfl ?_
                refine pw_getIv (v := gF G 12 (0) 0) r_12_text_133 fs_12_0 (by decide) (by first | rfl | simp [gF_sF, gF_sA, gF_uA, gF_sD, gA_sF, gA_sA, gA_uA, gA_sD, gD_sF, gD_sA, gD_uA, gD_sD]) ?_
                refine pw_iast r_12_text_136 sh232 (by omega) (by omega) ?_
                refine pw_aload r_12_text_137 rfl ?_
                refine pw_getR r_12_text_138 fs_12_41 (by decide) ?_
                refine pw_aload r_12_text_141 rfl ?_
                refine pw_getIv (v := gF G 12 (0) 42) r_12_text_142 fs_12_42 (by decide) (by first | rfl | simp [gF_sF, gF_sA, gF_uA, gF_sD, gA_sF, gA_sA, gA_uA, gA_sD, gD_sF, gD_sA, gD_uA, gD_sD]) ?_
                refine pw_iload r_12_text_145 rfl ?_
                refine pw_iast r_12_text_146 sh233 (by omega) (by omega) ?_
                refine pw_aload r_12_text_147 rfl ?_
                refine pw_dup r_12_text_148 rfl ?_
                refine pw_getIv (v := gF G 12 (0) 42) r_12_text_149 fs_12_42 (by decide) (by first | rfl | simp [gF_sF, gF_sA, gF_uA, gF_sD, gA_sF, gA_sA, gA_uA, gA_sD, gD_sF, gD_sA, gD_uA, gD_sD]) ?_
                refine pw_const r_12_text_152 ?_
                refine pw_iadd r_12_text_153 (by omega) ?_
                refine pw_putI r_12_text_154 (by decide +kernel) fs_12_42 (by decide) ?_
                refine pw_aload r_12_text_157 rfl ?_
                refine pw_getIv (v := ((gF G 12 (0) 42) + 1)) r_12_text_158 fs_12_42 (by decide) (by first | rfl | simp [gF_sF, gF_sA, gF_uA, gF_sD, gA_sF, gA_sA, gA_uA, gA_sD, gD_sF, gD_sA, gD_uA, gD_sD]) ?_
                refine pw_const r_12_text_161 ?_
                refine pw_isub r_12_text_162 (by omega) ?_
                refine pw_iret r_12_text_163 rfl (Nat.le_refl _) ⟨rfl, ?_⟩
                refine pe (h4 (by omega) (by omega) _ L1 q1) (by omega)
              · skip
                refine pw_aload r_12_text_74 rfl ?_
                refine pw_getR r_12_text_75 fs_12_37 (by decide) ?_
                refine pw_const r_12_text_78 ?_
                refine pw_aload r_12_text_81 rfl ?_
                refine pw_getIv (v := gF G 12 (0) 42) r_12_text_82 fs_12_42 (by decide) (by first | rfl | simp [gF_sF, gF_sA, gF_uA, gF_sD, gA_sF, gA_sA, gA_uA, gA_sD, gD_sF, gD_sA, gD_uA, gD_sD]) ?_
                refine pw_imul r_12_text_85 (by omega) ?_
                refine pw_iload r_12_text_86 rfl ?_
                refine pw_iadd r_12_text_88 (by omega) ?_
                refine pw_aload r_12_text_89 rfl ?_
                refine pw_getR r_12_text_90 fs_12_35 (by decide) ?_
                refine pw_iload r_12_text_93 rfl ?_
                refine pw_ialdv (v := gA G 228 (0) (i)) r_12_text_95 sh228 (by omega) (by omega) (by first | rfl | simp [gF_sF, gF_sA, gF_uA, gF_sD, gA_sF, gA_sA, gA_uA, gA_sD, gD_sF, gD_sA, gD_uA, gD_sD]) ?_
                refine pw_iast r_12_text_96 sh229 (by omega) (by omega) ?_
                refine pw_iinc (b := 0) (ls' := [some (vR 12 (0)), some (vI (u)), some (vI (f0)), some (vI ((pick (gA G 235 0) L1 0).2)), some (vI (gF G 12 (0) 36)), some (vI ((i + 1)))]) r_12_text_97 rfl rfl (by omega) rfl ?_
                refine pw_goto r_12_text_100 ?_
                refine pw_eqG (G' := uA (sF (sF (sF (sF (sF (sF (sF G 12 (0) 44 ((-1))) 12 (0) 45 ((gF G 12 0 36))) 12 (0) 46 ((gF G 12 0 36))) 12 (0) 47 (-1)) 12 (0) 48 (0)) 12 (0) 50 ((pick (gA G 235 0) L1 0).1)) 12 (0) 36 (0)) 229 (0) (filF (fun j0 => 160 * (gF G 12 0 42) ≤ j0) (fun j0 => gA G 228 0 (j0 - 160 * (gF G 12 0 42))) (gA G 229 0) (160 * (gF G 12 0 42) + (i + 1)))) (by rw [sA_uA, fil_s (q := fun j0 => 160 * (gF G 12 0 42) ≤ j0) (v := fun j0 => gA G 228 0 (j0 - 160 * (gF G 12 0 42))) (n := 160 * (gF G 12 0 42) + i) (by omega) (show 160 * (gF G 12 0 42) ≤ 160 * (gF G 12 0 42) + i by omega) (by show _ = gA G 228 0 (160 * (gF G 12 0 42) + i - 160 * (gF G 12 0 42)); rw [show 160 * (gF G 12 0 42) + i - 160 * (gF G 12 0 42) = i by omega]), show 160 * (gF G 12 0 42) + (i + 1) = 160 * (gF G 12 0 42) + i + 1 by omega]) ?_
                exact ih67 ((i + 1)) (by omega) (by omega)
          refine pw_eqG (G' := uA (sF (sF (sF (sF (sF (sF (sF G 12 (0) 44 ((-1))) 12 (0) 45 ((gF G 12 0 36))) 12 (0) 46 ((gF G 12 0 36))) 12 (0) 47 (-1)) 12 (0) 48 (0)) 12 (0) 50 ((pick (gA G 235 0) L1 0).1)) 12 (0) 36 (0)) 229 (0) (filF (fun j0 => 160 * (gF G 12 0 42) ≤ j0) (fun j0 => gA G 228 0 (j0 - 160 * (gF G 12 0 42))) (gA G 229 0) (160 * (gF G 12 0 42) + 0))) (by rw [show 160 * (gF G 12 0 42) + 0 = 160 * (gF G 12 0 42) by omega, fil_none (q := fun j0 => 160 * (gF G 12 0 42) ≤ j0) (fun i a b => by omega)]; exact (uA_own _ 229 0).symm) ?_
          exact L67 _ (0) (by omega) (Nat.lt_succ_self _)
      · skip
        refine pw_const r_12_text_25 ?_
        refine pw_iret r_12_text_27 rfl (Nat.le_refl _) ⟨rfl, ?_⟩
        first | exact h1 (by omega) | exact h2 (by omega) (by omega)
    · skip
      refine pw_const r_12_text_14 ?_
      refine pw_iret r_12_text_15 rfl (Nat.le_refl _) ⟨rfl, ?_⟩
      first | exact h1 (by omega) | exact h2 (by omega) (by omega)
