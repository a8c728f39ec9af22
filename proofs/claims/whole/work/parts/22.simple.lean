theorem pAnd_255 (a : Int) : pAnd a 255 = a % 256 := by
  unfold pAnd
  have e : (Int32.ofInt a &&& Int32.ofInt 255).toBitVec = BitVec.ofInt 32 a &&& 255#32 := rfl
  have h1 : (BitVec.ofInt 32 a &&& 255#32).toNat = (BitVec.ofInt 32 a).toNat % 256 := by
    rw [BitVec.toNat_and]
    exact Nat.and_two_pow_sub_one_eq_mod _ 8
  have h2 : (BitVec.ofInt 32 a).toNat = (a % 4294967296).toNat := BitVec.toNat_ofInt _
  show (Int32.ofInt a &&& Int32.ofInt 255).toBitVec.toInt = a % 256
  rw [e, BitVec.toInt_eq_toNat_of_lt (by omega), h1, h2]
  omega
theorem b8_255 (a : Int) : pAnd (b8 a) 255 = pAnd a 255 := by
  rw [pAnd_255, pAnd_255]
  unfold b8
  exact Int.bmod_emod
theorem pAnd_255_in (a : Int) : 0 ≤ pAnd a 255 ∧ pAnd a 255 ≤ 255 := by rw [pAnd_255]; omega
theorem b16_id {a : Int} (h : -32768 ≤ a ∧ a < 32768) : b16 a = a := by unfold b16; exact Int.bmod_eq_of_le (by omega) (by omega)
theorem b16_b8 (a : Int) : b16 (b8 a) = b8 a := b16_id (by have := b8_in a; omega)
theorem b16_b16 (a : Int) : b16 (b16 a) = b16 a := b16_id (by have := b16_in a; omega)
theorem b8_b8 (a : Int) : b8 (b8 a) = b8 a := by
  have := b8_in a
  unfold b8 at this ⊢
  exact Int.bmod_eq_of_le (by omega) (by omega)
theorem fil_none {q : Int → Prop} {v f : Int → Int} {n : Int} (h : ∀ i, 0 ≤ i → i < n → ¬ q i) : filF q v f n = f := funext fun i => if_neg fun z => h i z.1 z.2.1 z.2.2
theorem sF_self (G : PH) (c : Nat) (r : Int) (k : Nat) : sF G c r k (gF G c r k) = G := by
  refine PH_ext (fun c' r' k' => ?_) (fun _ _ _ => rfl) (fun _ _ _ => rfl)
  rw [gF_sF]
  by_cases e : c' = c ∧ k' = k ∧ r' = r
  · rw [if_pos e, e.1, e.2.1, e.2.2]
  · rw [if_neg e]
theorem sF_sF (G : PH) (c : Nat) (r : Int) (k : Nat) (v u : Int) : sF (sF G c r k v) c r k u = sF G c r k u := by
  refine PH_ext (fun c' r' k' => ?_) (fun _ _ _ => rfl) (fun _ _ _ => rfl)
  rw [gF_sF, gF_sF, gF_sF]
  by_cases e : c' = c ∧ k' = k ∧ r' = r
  · rw [if_pos e, if_pos e]
  · rw [if_neg e, if_neg e, if_neg e]
theorem sA_sF (G : PH) (c : Nat) (r i v : Int) (c' : Nat) (r' : Int) (k : Nat) (u : Int) : sA (sF G c' r' k u) c r i v = sF (sA G c r i v) c' r' k u := rfl
theorem uA_sF (G : PH) (c : Nat) (r : Int) (f : Int → Int) (c' : Nat) (r' : Int) (k : Nat) (u : Int) : uA (sF G c' r' k u) c r f = sF (uA G c r f) c' r' k u := rfl
/-- what is left of a word from its j-th letter on -/
def shN (w : Int) : Nat → Int
  | 0 => w
  | n + 1 => shN w n / 28
def lft (w j : Int) : Int := shN w j.toNat
theorem sh_0 (w : Int) : lft w 0 = w := rfl
theorem sh_s (w : Int) {j : Int} (h : 0 ≤ j) : lft w (j + 1) = lft w j / 28 := by
  unfold lft
  rw [show (j + 1).toNat = j.toNat + 1 by omega, shN]
theorem sh_nn {w j : Int} (h : 0 ≤ w) (hj : 0 ≤ j) : 0 ≤ lft w j := nat_ind (p := fun j => 0 ≤ lft w j) h (fun n hn ih => by rw [sh_s w hn]; omega) j hj
theorem sh_zero {w i j : Int} (hi : 0 ≤ i) (h : lft w i = 0) (hij : i ≤ j) : lft w j = 0 := by
  have := nat_ind (p := fun k => lft w (i + k) = 0) (by rw [show i + 0 = i by omega]; exact h) (fun n hn ih => by rw [show i + (n + 1) = i + n + 1 by omega, sh_s w (by omega), ih]; decide) (j - i) (by omega)
  rw [show i + (j - i) = j by omega] at this
  exact this
def WordN (w n : Int) : Prop := 0 < w ∧ (∀ j, 0 ≤ j → j < n → lft w j % 28 ≠ 0) ∧ lft w n = 0
theorem WordN_dig {w n i : Int} (h : WordN w n) (hi : 0 ≤ i) (h2 : lft w i % 28 = 0) : n ≤ i ∧ lft w i = 0 := by
  have h3 : n ≤ i := by
    rcases Int.lt_or_le i n with q | q
    · exact absurd h2 (h.2.1 i hi q)
    · exact q
  by_cases e : 0 ≤ n
  · exact ⟨h3, sh_zero e h.2.2 h3⟩
  · exfalso
    have h5 := h.2.2
    unfold lft at h5
    rw [show n.toNat = 0 by omega] at h5
    have := h.1
    change w = 0 at h5
    omega
theorem WordN_one {w n m : Int} (hn : 0 ≤ n) (hm : 0 ≤ m) (h : WordN w n) (h1 : WordN w m) : n = m := by
  have a := WordN_dig h hm (by rw [h1.2.2]; decide)
  have b := WordN_dig h1 hn (by rw [h.2.2]; decide)
  omega
theorem WordN_pos {w n : Int} (hn : 0 ≤ n) (h : WordN w n) : 1 ≤ n := by
  rcases Int.lt_or_le 0 n with q | q
  · omega
  · have e : n = 0 := by omega
    subst e
    have := h.2.2
    rw [sh_0] at this
    have := h.1
    omega
theorem sh_5 (w : Int) : lft w 0 = w ∧ lft w 1 = w / 28 ∧ lft w 2 = w / 28 / 28 ∧ lft w 3 = w / 28 / 28 / 28 ∧ lft w 4 = w / 28 / 28 / 28 / 28 ∧ lft w 5 = w / 28 / 28 / 28 / 28 / 28 := ⟨rfl, rfl, rfl, rfl, rfl, rfl⟩
theorem word_ok {w n : Int} {lt : Int → Int} (hn : 0 ≤ n ∧ n ≤ 5) (h : WordN w n) (hl : ∀ j, 0 ≤ j → j < 5 → lt j = lft w j % 28) : wordOk w n lt := by
  have h1 := WordN_pos hn.1 h
  refine ⟨h1, hn.2, fun j a b => ?_, ?_⟩
  · rw [hl j a b]
    refine ⟨by omega, by omega, fun c => ?_, fun c => ?_⟩
    · have := h.2.1 j a c; omega
    · rw [sh_zero hn.1 h.2.2 c]; decide
  · have h5 := sh_zero hn.1 h.2.2 hn.2
    obtain ⟨e0, e1, e2, e3, e4, e5⟩ := sh_5 w
    rw [hl 0 (by omega) (by omega), hl 1 (by omega) (by omega), hl 2 (by omega) (by omega), hl 3 (by omega) (by omega), hl 4 (by omega) (by omega), e0, e1, e2, e3, e4]
    rw [e5] at h5
    omega
theorem word_of {w n : Int} {lt : Int → Int} (h : wordOk w n lt) : WordN w n ∧ ∀ j, 0 ≤ j → j < 5 → lft w j % 28 = lt j := by
  obtain ⟨h1, h2, h3, h4⟩ := h
  obtain ⟨e0, e1, e2, e3, e4, e5⟩ := sh_5 w
  have l0 := h3 0 (by omega) (by omega)
  have l1 := h3 1 (by omega) (by omega)
  have l2 := h3 2 (by omega) (by omega)
  have l3 := h3 3 (by omega) (by omega)
  have l4 := h3 4 (by omega) (by omega)
  have x1 : w / 28 = lt 1 + 28 * lt 2 + 784 * lt 3 + 21952 * lt 4 := by omega
  have x2 : w / 28 / 28 = lt 2 + 28 * lt 3 + 784 * lt 4 := by omega
  have x3 : w / 28 / 28 / 28 = lt 3 + 28 * lt 4 := by omega
  have x4 : w / 28 / 28 / 28 / 28 = lt 4 := by omega
  have x5 : w / 28 / 28 / 28 / 28 / 28 = 0 := by omega
  have hd : ∀ j, 0 ≤ j → j < 5 → lft w j % 28 = lt j := fun j a b => by
    rcases (show j = 0 ∨ j = 1 ∨ j = 2 ∨ j = 3 ∨ j = 4 by omega) with e | e | e | e | e <;> subst e
    · rw [e0]; omega
    · rw [e1]; omega
    · rw [e2]; omega
    · rw [e3]; omega
    · rw [e4]; omega
  refine ⟨⟨by omega, fun j a b => by rw [hd j a (by omega)]; have := (h3 j a (by omega)).2.2.1 b; omega, ?_⟩, hd⟩
  rcases (show n = 1 ∨ n = 2 ∨ n = 3 ∨ n = 4 ∨ n = 5 by omega) with e | e | e | e | e <;> subst e
  · rw [e1]; omega
  · rw [e2]; omega
  · rw [e3]; omega
  · rw [e4]; omega
  · rw [e5]; exact x5

theorem wd_f8_52 : Cond.fieldLink "NameRolls$Texts" 52 "NameRolls$Texts" "tapeSize" "I" ∈ UW := UW1_at 221 (by decide +kernel) rfl
theorem wd_f8_18 : Cond.fieldLink "NameRolls$Texts" 18 "NameRolls$Texts" "tape" "[B" ∈ UW := UW1_at 226 (by decide +kernel) rfl
theorem wd_f12_94 : Cond.fieldLink "NameRollsModel" 94 "NameRollsModel" "tape" "[I" ∈ UW := UW7_at 103 (by decide +kernel) rfl
theorem wd_f8_63 : Cond.fieldLink "NameRolls$Texts" 63 "NameRolls$Texts" "size" "I" ∈ UW := UW1_at 219 (by decide +kernel) rfl
theorem wd_f8_31 : Cond.fieldLink "NameRolls$Texts" 31 "NameRolls$Texts" "purpose" "[I" ∈ UW := UW1_at 229 (by decide +kernel) rfl
theorem wd_f8_34 : Cond.fieldLink "NameRolls$Texts" 34 "NameRolls$Texts" "madeOn" "[I" ∈ UW := UW1_at 230 (by decide +kernel) rfl
theorem wd_f8_37 : Cond.fieldLink "NameRolls$Texts" 37 "NameRolls$Texts" "forceFrom" "[I" ∈ UW := UW1_at 231 (by decide +kernel) rfl
theorem wd_f12_103 : Cond.fieldLink "NameRollsModel" 103 "NameRollsModel" "textWhat" "[I" ∈ UW := UW7_at 107 (by decide +kernel) rfl
theorem wd_f12_106 : Cond.fieldLink "NameRollsModel" 106 "NameRollsModel" "textMade" "[I" ∈ UW := UW7_at 108 (by decide +kernel) rfl
theorem wd_f12_109 : Cond.fieldLink "NameRollsModel" 109 "NameRollsModel" "textFrom" "[I" ∈ UW := UW7_at 109 (by decide +kernel) rfl
theorem wd_m8_56 : Cond.methodLink "NameRolls$Texts" 56 M_X8_isPurpose.1 ∈ UW := UW4_at 111 (by decide +kernel) rfl
theorem wd_m8_84 : Cond.methodLink "NameRolls$Texts" 84 M_X8_findInForce.1 ∈ UW := UW5_at 6 (by decide +kernel) rfl
theorem wd_s8_findInForce : Cond.selects M_X8_findInForce.1.cls M_X8_findInForce.1 M_X8_findInForce.1 ∈ UW := UWp_at 19 (by decide +kernel) rfl
theorem wd_m12_373 : Cond.methodLink "NameRollsModel" 373 M_X12_isWhat.1 ∈ UW := UW9_at 59 (by decide +kernel) rfl
theorem wd_m12_382 : Cond.methodLink "NameRollsModel" 382 M_X12_force.1 ∈ UW := UW9_at 109 (by decide +kernel) rfl
theorem wd_s12_force : Cond.selects M_X12_force.1.cls M_X12_force.1 M_X12_force.1 ∈ UW := UWp_at 82 (by decide +kernel) rfl
theorem wd_m11_139 : Cond.methodLink "NameRolls" 139 M_X8_addBytes.1 ∈ UW := UW4_at 98 (by decide +kernel) rfl
theorem wd_s8_addBytes : Cond.selects M_X8_addBytes.1.cls M_X8_addBytes.1 M_X8_addBytes.1 ∈ UW := UW4_at 100 (by decide +kernel) rfl
theorem wd_m11_145 : Cond.methodLink "NameRolls" 145 M_X8_tellInForce.1 ∈ UW := UW5_at 2 (by decide +kernel) rfl
theorem wd_s8_tellInForce : Cond.selects M_X8_tellInForce.1.cls M_X8_tellInForce.1 M_X8_tellInForce.1 ∈ UW := UW5_at 4 (by decide +kernel) rfl
theorem wd_m5_104 : Cond.methodLink "NameRolls$Rolls" 104 M_X5_isTable.1 ∈ UW := UW5_at 161 (by decide +kernel) rfl
theorem wd_f5_44 : Cond.fieldLink "NameRolls$Rolls" 44 "NameRolls$Rolls" "tableSort" "[I" ∈ UW := UW2_at 36 (by decide +kernel) rfl
theorem wd_f5_47 : Cond.fieldLink "NameRolls$Rolls" 47 "NameRolls$Rolls" "tableSize" "[I" ∈ UW := UW2_at 37 (by decide +kernel) rfl
theorem wd_f5_41 : Cond.fieldLink "NameRolls$Rolls" 41 "NameRolls$Rolls" "items" "[[S" ∈ UW := UW2_at 35 (by decide +kernel) rfl
theorem wd_m12_428 : Cond.methodLink "NameRollsModel" 428 M_X12_isTable.1 ∈ UW := UW9_at 195 (by decide +kernel) rfl
theorem wd_f12_231 : Cond.fieldLink "NameRollsModel" 231 "NameRollsModel" "tableSort" "[I" ∈ UW := UW7_at 174 (by decide +kernel) rfl
theorem wd_f12_234 : Cond.fieldLink "NameRollsModel" 234 "NameRollsModel" "tableMany" "[I" ∈ UW := UW7_at 175 (by decide +kernel) rfl
theorem wd_f12_237 : Cond.fieldLink "NameRollsModel" 237 "NameRollsModel" "items" "[I" ∈ UW := UW7_at 176 (by decide +kernel) rfl
theorem wd_c5_107 : Cond.constant "NameRolls$Rolls" 107 (Int32.ofInt (-2000000000)) ∈ UW := UW7_at 45 (by decide +kernel) rfl
theorem wd_f5_50 : Cond.fieldLink "NameRolls$Rolls" 50 "NameRolls$Rolls" "blankMark" "I" ∈ UW := UW2_at 38 (by decide +kernel) rfl
theorem wd_f12_134 : Cond.fieldLink "NameRollsModel" 134 "NameRollsModel" "blank" "I" ∈ UW := UW7_at 125 (by decide +kernel) rfl
theorem wd_f5_29 : Cond.fieldLink "NameRolls$Rolls" 29 "NameRolls$Rolls" "alike" "[Z" ∈ UW := UW2_at 32 (by decide +kernel) rfl
theorem wd_f12_130 : Cond.fieldLink "NameRollsModel" 130 "NameRollsModel" "canBe" "[Z" ∈ UW := UW7_at 124 (by decide +kernel) rfl
theorem wd_m11_240 : Cond.methodLink "NameRolls" 240 M_X5_setTable.1 ∈ UW := UW7_at 25 (by decide +kernel) rfl
theorem wd_s5_setTable : Cond.selects M_X5_setTable.1.cls M_X5_setTable.1 M_X5_setTable.1 ∈ UW := UW7_at 27 (by decide +kernel) rfl
theorem wd_m11_243 : Cond.methodLink "NameRolls" 243 M_X5_setItem.1 ∈ UW := UW7_at 33 (by decide +kernel) rfl
theorem wd_s5_setItem : Cond.selects M_X5_setItem.1.cls M_X5_setItem.1 M_X5_setItem.1 ∈ UW := UW7_at 35 (by decide +kernel) rfl
theorem wd_m11_246 : Cond.methodLink "NameRolls" 246 M_X5_tellItem.1 ∈ UW := UW7_at 41 (by decide +kernel) rfl
theorem wd_s5_tellItem : Cond.selects M_X5_tellItem.1.cls M_X5_tellItem.1 M_X5_tellItem.1 ∈ UW := UW7_at 43 (by decide +kernel) rfl
theorem wd_m11_249 : Cond.methodLink "NameRolls" 249 M_X5_setBlank.1 ∈ UW := UW7_at 50 (by decide +kernel) rfl
theorem wd_s5_setBlank : Cond.selects M_X5_setBlank.1.cls M_X5_setBlank.1 M_X5_setBlank.1 ∈ UW := UW7_at 52 (by decide +kernel) rfl
theorem wd_m11_163 : Cond.methodLink "NameRolls" 163 M_X5_setCanBe.1 ∈ UW := UW5_at 86 (by decide +kernel) rfl
theorem wd_s5_setCanBe : Cond.selects M_X5_setCanBe.1.cls M_X5_setCanBe.1 M_X5_setCanBe.1 ∈ UW := UW5_at 88 (by decide +kernel) rfl
theorem r_8_addBytes_0 : RL M_X8_addBytes 0 1 1 := Or.inl ⟨1, by decide +kernel, rfl, rfl⟩
theorem r_8_addBytes_1 : RC M_X8_addBytes 1 1 2 := ⟨⟨by decide, by decide⟩, Or.inl ⟨by decide +kernel, rfl⟩⟩
theorem r_8_addBytes_2 : RC M_X8_addBytes 2 4 3 := ⟨⟨by decide, by decide⟩, Or.inl ⟨by decide +kernel, rfl⟩⟩
theorem r_8_addBytes_3 : RKs M_X8_addBytes M_X11_within 3 3 6 := ⟨48, by decide +kernel, Or.inr (by decide +kernel), ok_M_X11_within, rfl⟩
theorem r_8_addBytes_6 : RB M_X8_addBytes 6 (.ifCond .ne) 11 9 := ⟨5, by decide +kernel, rfl, rfl⟩
theorem r_8_addBytes_11 : RA M_X8_addBytes 11 0 12 := Or.inl ⟨0, by decide +kernel, rfl, rfl⟩
theorem r_8_addBytes_12 : RG M_X8_addBytes 12 8 1 15 := ⟨52, _, by decide +kernel, rfl, by decide, wd_f8_52, rfl, rfl⟩
theorem r_8_addBytes_15 : RC M_X8_addBytes 15 160 18 := ⟨⟨by decide, by decide⟩, Or.inr (Or.inr (Or.inl ⟨by decide +kernel, by decide, rfl⟩))⟩
theorem r_8_addBytes_18 : RL M_X8_addBytes 18 1 19 := Or.inl ⟨1, by decide +kernel, rfl, rfl⟩
theorem r_8_addBytes_19 : RW M_X8_addBytes 19 .isub 20 1 := ⟨by decide +kernel, rfl⟩
theorem r_8_addBytes_20 : RB M_X8_addBytes 20 (.if_icmp .le) 26 23 := ⟨6, by decide +kernel, rfl, rfl⟩
theorem r_8_addBytes_26 : RC M_X8_addBytes 26 0 27 := ⟨⟨by decide, by decide⟩, Or.inl ⟨by decide +kernel, rfl⟩⟩
theorem r_8_addBytes_27 : RS M_X8_addBytes 27 3 28 := ⟨by decide, Or.inl ⟨3, by decide +kernel, rfl, rfl⟩⟩
theorem r_8_addBytes_28 : RL M_X8_addBytes 28 3 29 := Or.inl ⟨3, by decide +kernel, rfl, rfl⟩
theorem r_8_addBytes_29 : RL M_X8_addBytes 29 1 30 := Or.inl ⟨1, by decide +kernel, rfl, rfl⟩
theorem r_8_addBytes_30 : RB M_X8_addBytes 30 (.if_icmp .ge) 65 33 := ⟨35, by decide +kernel, rfl, rfl⟩
theorem r_8_addBytes_65 : RA M_X8_addBytes 65 0 66 := Or.inl ⟨0, by decide +kernel, rfl, rfl⟩
theorem r_8_addBytes_66 : RG M_X8_addBytes 66 8 1 69 := ⟨52, _, by decide +kernel, rfl, by decide, wd_f8_52, rfl, rfl⟩
theorem r_8_addBytes_69 : RW M_X8_addBytes 69 .ireturn 70 1 := ⟨by decide +kernel, rfl⟩
theorem r_8_addBytes_33 : RA M_X8_addBytes 33 0 34 := Or.inl ⟨0, by decide +kernel, rfl, rfl⟩
theorem r_8_addBytes_34 : RG M_X8_addBytes 34 8 5 37 := ⟨18, _, by decide +kernel, rfl, by decide, wd_f8_18, rfl, rfl⟩
theorem r_8_addBytes_37 : RA M_X8_addBytes 37 0 38 := Or.inl ⟨0, by decide +kernel, rfl, rfl⟩
theorem r_8_addBytes_38 : RG M_X8_addBytes 38 8 1 41 := ⟨52, _, by decide +kernel, rfl, by decide, wd_f8_52, rfl, rfl⟩
theorem r_8_addBytes_41 : RL M_X8_addBytes 41 2 42 := Or.inl ⟨2, by decide +kernel, rfl, rfl⟩
theorem r_8_addBytes_42 : RC M_X8_addBytes 42 8 44 := ⟨⟨by decide, by decide⟩, Or.inr (Or.inl ⟨by decide +kernel, by decide, rfl⟩)⟩
theorem r_8_addBytes_44 : RL M_X8_addBytes 44 3 45 := Or.inl ⟨3, by decide +kernel, rfl, rfl⟩
theorem r_8_addBytes_45 : RW M_X8_addBytes 45 .imul 46 1 := ⟨by decide +kernel, rfl⟩
theorem r_8_addBytes_46 : RW M_X8_addBytes 46 .ishr 47 1 := ⟨by decide +kernel, rfl⟩
theorem r_8_addBytes_47 : RW M_X8_addBytes 47 .i2b 48 1 := ⟨by decide +kernel, rfl⟩
theorem r_8_addBytes_48 : RW M_X8_addBytes 48 .bastore 49 1 := ⟨by decide +kernel, rfl⟩
theorem r_8_addBytes_49 : RA M_X8_addBytes 49 0 50 := Or.inl ⟨0, by decide +kernel, rfl, rfl⟩
theorem r_8_addBytes_50 : RW M_X8_addBytes 50 .dup 51 1 := ⟨by decide +kernel, rfl⟩
theorem r_8_addBytes_51 : RG M_X8_addBytes 51 8 1 54 := ⟨52, _, by decide +kernel, rfl, by decide, wd_f8_52, rfl, rfl⟩
theorem r_8_addBytes_54 : RC M_X8_addBytes 54 1 55 := ⟨⟨by decide, by decide⟩, Or.inl ⟨by decide +kernel, rfl⟩⟩
theorem r_8_addBytes_55 : RW M_X8_addBytes 55 .iadd 56 1 := ⟨by decide +kernel, rfl⟩
theorem r_8_addBytes_56 : RP M_X8_addBytes 56 8 1 59 := ⟨52, _, by decide +kernel, rfl, by decide, wd_f8_52, rfl, Or.inl rfl, rfl⟩
theorem r_8_addBytes_59 : RI M_X8_addBytes 59 3 1 62 := ⟨by decide, by decide +kernel, rfl⟩
theorem r_8_addBytes_62 : RB M_X8_addBytes 62 .goto 28 65 := ⟨(-34), by decide +kernel, rfl, rfl⟩
theorem r_8_addBytes_23 : RC M_X8_addBytes 23 (-2) 25 := ⟨⟨by decide, by decide⟩, Or.inr (Or.inl ⟨by decide +kernel, by decide, rfl⟩)⟩
theorem r_8_addBytes_25 : RW M_X8_addBytes 25 .ireturn 26 1 := ⟨by decide +kernel, rfl⟩
theorem r_8_addBytes_9 : RC M_X8_addBytes 9 (-1) 10 := ⟨⟨by decide, by decide⟩, Or.inl ⟨by decide +kernel, rfl⟩⟩
theorem r_8_addBytes_10 : RW M_X8_addBytes 10 .ireturn 11 1 := ⟨by decide +kernel, rfl⟩
theorem r_12_feed_0 : RL M_X12_feed 0 1 1 := Or.inl ⟨1, by decide +kernel, rfl, rfl⟩
theorem r_12_feed_1 : RC M_X12_feed 1 1 2 := ⟨⟨by decide, by decide⟩, Or.inl ⟨by decide +kernel, rfl⟩⟩
theorem r_12_feed_2 : RC M_X12_feed 2 4 3 := ⟨⟨by decide, by decide⟩, Or.inl ⟨by decide +kernel, rfl⟩⟩
theorem r_12_feed_3 : RKs M_X12_feed M_X12_within 3 3 6 := ⟨240, by decide +kernel, Or.inl wd_m12_240, ok_M_X12_within, rfl⟩
theorem r_12_feed_6 : RB M_X12_feed 6 (.ifCond .ne) 11 9 := ⟨5, by decide +kernel, rfl, rfl⟩
theorem r_12_feed_11 : RA M_X12_feed 11 0 12 := Or.inl ⟨0, by decide +kernel, rfl, rfl⟩
theorem r_12_feed_12 : RG M_X12_feed 12 12 36 15 := ⟨322, _, by decide +kernel, rfl, by decide, wd_f12_322, rfl, rfl⟩
theorem r_12_feed_15 : RL M_X12_feed 15 1 16 := Or.inl ⟨1, by decide +kernel, rfl, rfl⟩
theorem r_12_feed_16 : RW M_X12_feed 16 .iadd 17 1 := ⟨by decide +kernel, rfl⟩
theorem r_12_feed_17 : RC M_X12_feed 17 160 20 := ⟨⟨by decide, by decide⟩, Or.inr (Or.inr (Or.inl ⟨by decide +kernel, by decide, rfl⟩))⟩
theorem r_12_feed_20 : RB M_X12_feed 20 (.if_icmp .le) 26 23 := ⟨6, by decide +kernel, rfl, rfl⟩
theorem r_12_feed_26 : RC M_X12_feed 26 0 27 := ⟨⟨by decide, by decide⟩, Or.inl ⟨by decide +kernel, rfl⟩⟩
theorem r_12_feed_27 : RS M_X12_feed 27 3 28 := ⟨by decide, Or.inl ⟨3, by decide +kernel, rfl, rfl⟩⟩
theorem r_12_feed_28 : RL M_X12_feed 28 3 29 := Or.inl ⟨3, by decide +kernel, rfl, rfl⟩
theorem r_12_feed_29 : RL M_X12_feed 29 1 30 := Or.inl ⟨1, by decide +kernel, rfl, rfl⟩
theorem r_12_feed_30 : RB M_X12_feed 30 (.if_icmp .ge) 68 33 := ⟨38, by decide +kernel, rfl, rfl⟩
theorem r_12_feed_68 : RA M_X12_feed 68 0 69 := Or.inl ⟨0, by decide +kernel, rfl, rfl⟩
theorem r_12_feed_69 : RG M_X12_feed 69 12 36 72 := ⟨322, _, by decide +kernel, rfl, by decide, wd_f12_322, rfl, rfl⟩
theorem r_12_feed_72 : RW M_X12_feed 72 .ireturn 73 1 := ⟨by decide +kernel, rfl⟩
theorem r_12_feed_33 : RA M_X12_feed 33 0 34 := Or.inl ⟨0, by decide +kernel, rfl, rfl⟩
theorem r_12_feed_34 : RG M_X12_feed 34 12 35 37 := ⟨94, _, by decide +kernel, rfl, by decide, wd_f12_94, rfl, rfl⟩
theorem r_12_feed_37 : RA M_X12_feed 37 0 38 := Or.inl ⟨0, by decide +kernel, rfl, rfl⟩
theorem r_12_feed_38 : RG M_X12_feed 38 12 36 41 := ⟨322, _, by decide +kernel, rfl, by decide, wd_f12_322, rfl, rfl⟩
theorem r_12_feed_41 : RL M_X12_feed 41 2 42 := Or.inl ⟨2, by decide +kernel, rfl, rfl⟩
theorem r_12_feed_42 : RC M_X12_feed 42 8 44 := ⟨⟨by decide, by decide⟩, Or.inr (Or.inl ⟨by decide +kernel, by decide, rfl⟩)⟩
theorem r_12_feed_44 : RL M_X12_feed 44 3 45 := Or.inl ⟨3, by decide +kernel, rfl, rfl⟩
theorem r_12_feed_45 : RW M_X12_feed 45 .imul 46 1 := ⟨by decide +kernel, rfl⟩
theorem r_12_feed_46 : RW M_X12_feed 46 .ishr 47 1 := ⟨by decide +kernel, rfl⟩
theorem r_12_feed_47 : RC M_X12_feed 47 255 50 := ⟨⟨by decide, by decide⟩, Or.inr (Or.inr (Or.inl ⟨by decide +kernel, by decide, rfl⟩))⟩
theorem r_12_feed_50 : RW M_X12_feed 50 .iand 51 1 := ⟨by decide +kernel, rfl⟩
theorem r_12_feed_51 : RW M_X12_feed 51 .iastore 52 1 := ⟨by decide +kernel, rfl⟩
theorem r_12_feed_52 : RA M_X12_feed 52 0 53 := Or.inl ⟨0, by decide +kernel, rfl, rfl⟩
theorem r_12_feed_53 : RW M_X12_feed 53 .dup 54 1 := ⟨by decide +kernel, rfl⟩
theorem r_12_feed_54 : RG M_X12_feed 54 12 36 57 := ⟨322, _, by decide +kernel, rfl, by decide, wd_f12_322, rfl, rfl⟩
theorem r_12_feed_57 : RC M_X12_feed 57 1 58 := ⟨⟨by decide, by decide⟩, Or.inl ⟨by decide +kernel, rfl⟩⟩
theorem r_12_feed_58 : RW M_X12_feed 58 .iadd 59 1 := ⟨by decide +kernel, rfl⟩
theorem r_12_feed_59 : RP M_X12_feed 59 12 36 62 := ⟨322, _, by decide +kernel, rfl, by decide, wd_f12_322, rfl, Or.inl rfl, rfl⟩
theorem r_12_feed_62 : RI M_X12_feed 62 3 1 65 := ⟨by decide, by decide +kernel, rfl⟩
theorem r_12_feed_65 : RB M_X12_feed 65 .goto 28 68 := ⟨(-37), by decide +kernel, rfl, rfl⟩
theorem r_12_feed_23 : RC M_X12_feed 23 (-2) 25 := ⟨⟨by decide, by decide⟩, Or.inr (Or.inl ⟨by decide +kernel, by decide, rfl⟩)⟩
theorem r_12_feed_25 : RW M_X12_feed 25 .ireturn 26 1 := ⟨by decide +kernel, rfl⟩
theorem r_12_feed_9 : RC M_X12_feed 9 (-1) 10 := ⟨⟨by decide, by decide⟩, Or.inl ⟨by decide +kernel, rfl⟩⟩
theorem r_12_feed_10 : RW M_X12_feed 10 .ireturn 11 1 := ⟨by decide +kernel, rfl⟩
theorem r_8_isPurpose_0 : RL M_X8_isPurpose 0 0 1 := Or.inl ⟨0, by decide +kernel, rfl, rfl⟩
theorem r_8_isPurpose_1 : RC M_X8_isPurpose 1 0 2 := ⟨⟨by decide, by decide⟩, Or.inl ⟨by decide +kernel, rfl⟩⟩
theorem r_8_isPurpose_2 : RC M_X8_isPurpose 2 39 4 := ⟨⟨by decide, by decide⟩, Or.inr (Or.inl ⟨by decide +kernel, by decide, rfl⟩)⟩
theorem r_8_isPurpose_4 : RKs M_X8_isPurpose M_X11_within 4 3 7 := ⟨48, by decide +kernel, Or.inr (by decide +kernel), ok_M_X11_within, rfl⟩
theorem r_8_isPurpose_7 : RB M_X8_isPurpose 7 (.ifCond .eq) 22 10 := ⟨15, by decide +kernel, rfl, rfl⟩
theorem r_8_isPurpose_22 : RC M_X8_isPurpose 22 0 23 := ⟨⟨by decide, by decide⟩, Or.inl ⟨by decide +kernel, rfl⟩⟩
theorem r_8_isPurpose_23 : RW M_X8_isPurpose 23 .ireturn 24 1 := ⟨by decide +kernel, rfl⟩
theorem r_8_isPurpose_10 : RL M_X8_isPurpose 10 0 11 := Or.inl ⟨0, by decide +kernel, rfl, rfl⟩
theorem r_8_isPurpose_11 : RC M_X8_isPurpose 11 10 13 := ⟨⟨by decide, by decide⟩, Or.inr (Or.inl ⟨by decide +kernel, by decide, rfl⟩)⟩
theorem r_8_isPurpose_13 : RW M_X8_isPurpose 13 .irem 14 1 := ⟨by decide +kernel, rfl⟩
theorem r_8_isPurpose_14 : RC M_X8_isPurpose 14 2 15 := ⟨⟨by decide, by decide⟩, Or.inl ⟨by decide +kernel, rfl⟩⟩
theorem r_8_isPurpose_15 : RB M_X8_isPurpose 15 (.if_icmp .gt) 22 18 := ⟨7, by decide +kernel, rfl, rfl⟩
theorem r_8_isPurpose_18 : RC M_X8_isPurpose 18 1 19 := ⟨⟨by decide, by decide⟩, Or.inl ⟨by decide +kernel, rfl⟩⟩
theorem r_8_isPurpose_19 : RB M_X8_isPurpose 19 .goto 23 22 := ⟨4, by decide +kernel, rfl, rfl⟩
theorem r_12_isWhat_0 : RL M_X12_isWhat 0 0 1 := Or.inl ⟨0, by decide +kernel, rfl, rfl⟩
theorem r_12_isWhat_1 : RB M_X12_isWhat 1 (.ifCond .lt) 24 4 := ⟨23, by decide +kernel, rfl, rfl⟩
theorem r_12_isWhat_24 : RC M_X12_isWhat 24 0 25 := ⟨⟨by decide, by decide⟩, Or.inl ⟨by decide +kernel, rfl⟩⟩
theorem r_12_isWhat_25 : RW M_X12_isWhat 25 .ireturn 26 1 := ⟨by decide +kernel, rfl⟩
theorem r_12_isWhat_4 : RL M_X12_isWhat 4 0 5 := Or.inl ⟨0, by decide +kernel, rfl, rfl⟩
theorem r_12_isWhat_5 : RC M_X12_isWhat 5 10 7 := ⟨⟨by decide, by decide⟩, Or.inr (Or.inl ⟨by decide +kernel, by decide, rfl⟩)⟩
theorem r_12_isWhat_7 : RW M_X12_isWhat 7 .idiv 8 1 := ⟨by decide +kernel, rfl⟩
theorem r_12_isWhat_8 : RC M_X12_isWhat 8 3 9 := ⟨⟨by decide, by decide⟩, Or.inl ⟨by decide +kernel, rfl⟩⟩
theorem r_12_isWhat_9 : RB M_X12_isWhat 9 (.if_icmp .gt) 24 12 := ⟨15, by decide +kernel, rfl, rfl⟩
theorem r_12_isWhat_12 : RL M_X12_isWhat 12 0 13 := Or.inl ⟨0, by decide +kernel, rfl, rfl⟩
theorem r_12_isWhat_13 : RC M_X12_isWhat 13 10 15 := ⟨⟨by decide, by decide⟩, Or.inr (Or.inl ⟨by decide +kernel, by decide, rfl⟩)⟩
theorem r_12_isWhat_15 : RW M_X12_isWhat 15 .irem 16 1 := ⟨by decide +kernel, rfl⟩
theorem r_12_isWhat_16 : RC M_X12_isWhat 16 2 17 := ⟨⟨by decide, by decide⟩, Or.inl ⟨by decide +kernel, rfl⟩⟩
theorem r_12_isWhat_17 : RB M_X12_isWhat 17 (.if_icmp .gt) 24 20 := ⟨7, by decide +kernel, rfl, rfl⟩
theorem r_12_isWhat_20 : RC M_X12_isWhat 20 1 21 := ⟨⟨by decide, by decide⟩, Or.inl ⟨by decide +kernel, rfl⟩⟩
theorem r_12_isWhat_21 : RB M_X12_isWhat 21 .goto 25 24 := ⟨4, by decide +kernel, rfl, rfl⟩
theorem r_8_findInForce_0 : RA M_X8_findInForce 0 0 1 := Or.inl ⟨0, by decide +kernel, rfl, rfl⟩
theorem r_8_findInForce_1 : RG M_X8_findInForce 1 8 0 4 := ⟨63, _, by decide +kernel, rfl, by decide, wd_f8_63, rfl, rfl⟩
theorem r_8_findInForce_4 : RC M_X8_findInForce 4 1 5 := ⟨⟨by decide, by decide⟩, Or.inl ⟨by decide +kernel, rfl⟩⟩
theorem r_8_findInForce_5 : RW M_X8_findInForce 5 .isub 6 1 := ⟨by decide +kernel, rfl⟩
theorem r_8_findInForce_6 : RS M_X8_findInForce 6 4 8 := ⟨by decide, Or.inr ⟨by decide +kernel, rfl⟩⟩
theorem r_8_findInForce_8 : RL M_X8_findInForce 8 4 10 := Or.inr ⟨by decide +kernel, rfl⟩
theorem r_8_findInForce_10 : RB M_X8_findInForce 10 (.ifCond .lt) 55 13 := ⟨45, by decide +kernel, rfl, rfl⟩
theorem r_8_findInForce_55 : RC M_X8_findInForce 55 (-1) 56 := ⟨⟨by decide, by decide⟩, Or.inl ⟨by decide +kernel, rfl⟩⟩
theorem r_8_findInForce_56 : RW M_X8_findInForce 56 .ireturn 57 1 := ⟨by decide +kernel, rfl⟩
theorem r_8_findInForce_13 : RA M_X8_findInForce 13 0 14 := Or.inl ⟨0, by decide +kernel, rfl, rfl⟩
theorem r_8_findInForce_14 : RG M_X8_findInForce 14 8 8 17 := ⟨31, _, by decide +kernel, rfl, by decide, wd_f8_31, rfl, rfl⟩
theorem r_8_findInForce_17 : RL M_X8_findInForce 17 4 19 := Or.inr ⟨by decide +kernel, rfl⟩
theorem r_8_findInForce_19 : RW M_X8_findInForce 19 .iaload 20 1 := ⟨by decide +kernel, rfl⟩
theorem r_8_findInForce_20 : RL M_X8_findInForce 20 1 21 := Or.inl ⟨1, by decide +kernel, rfl, rfl⟩
theorem r_8_findInForce_21 : RB M_X8_findInForce 21 (.if_icmp .ne) 49 24 := ⟨28, by decide +kernel, rfl, rfl⟩
theorem r_8_findInForce_49 : RI M_X8_findInForce 49 4 (-1) 52 := ⟨by decide, by decide +kernel, rfl⟩
theorem r_8_findInForce_52 : RB M_X8_findInForce 52 .goto 8 55 := ⟨(-44), by decide +kernel, rfl, rfl⟩
theorem r_8_findInForce_24 : RA M_X8_findInForce 24 0 25 := Or.inl ⟨0, by decide +kernel, rfl, rfl⟩
theorem r_8_findInForce_25 : RG M_X8_findInForce 25 8 9 28 := ⟨34, _, by decide +kernel, rfl, by decide, wd_f8_34, rfl, rfl⟩
theorem r_8_findInForce_28 : RL M_X8_findInForce 28 4 30 := Or.inr ⟨by decide +kernel, rfl⟩
theorem r_8_findInForce_30 : RW M_X8_findInForce 30 .iaload 31 1 := ⟨by decide +kernel, rfl⟩
theorem r_8_findInForce_31 : RL M_X8_findInForce 31 3 32 := Or.inl ⟨3, by decide +kernel, rfl, rfl⟩
theorem r_8_findInForce_32 : RB M_X8_findInForce 32 (.if_icmp .gt) 49 35 := ⟨17, by decide +kernel, rfl, rfl⟩
theorem r_8_findInForce_35 : RA M_X8_findInForce 35 0 36 := Or.inl ⟨0, by decide +kernel, rfl, rfl⟩
theorem r_8_findInForce_36 : RG M_X8_findInForce 36 8 10 39 := ⟨37, _, by decide +kernel, rfl, by decide, wd_f8_37, rfl, rfl⟩
theorem r_8_findInForce_39 : RL M_X8_findInForce 39 4 41 := Or.inr ⟨by decide +kernel, rfl⟩
theorem r_8_findInForce_41 : RW M_X8_findInForce 41 .iaload 42 1 := ⟨by decide +kernel, rfl⟩
theorem r_8_findInForce_42 : RL M_X8_findInForce 42 2 43 := Or.inl ⟨2, by decide +kernel, rfl, rfl⟩
theorem r_8_findInForce_43 : RB M_X8_findInForce 43 (.if_icmp .gt) 49 46 := ⟨6, by decide +kernel, rfl, rfl⟩
theorem r_8_findInForce_46 : RL M_X8_findInForce 46 4 48 := Or.inr ⟨by decide +kernel, rfl⟩
theorem r_8_findInForce_48 : RW M_X8_findInForce 48 .ireturn 49 1 := ⟨by decide +kernel, rfl⟩
theorem r_12_force_0 : RC M_X12_force 0 (-1) 1 := ⟨⟨by decide, by decide⟩, Or.inl ⟨by decide +kernel, rfl⟩⟩
theorem r_12_force_1 : RS M_X12_force 1 4 3 := ⟨by decide, Or.inr ⟨by decide +kernel, rfl⟩⟩
theorem r_12_force_3 : RC M_X12_force 3 0 4 := ⟨⟨by decide, by decide⟩, Or.inl ⟨by decide +kernel, rfl⟩⟩
theorem r_12_force_4 : RS M_X12_force 4 5 6 := ⟨by decide, Or.inr ⟨by decide +kernel, rfl⟩⟩
theorem r_12_force_6 : RL M_X12_force 6 5 8 := Or.inr ⟨by decide +kernel, rfl⟩
theorem r_12_force_8 : RA M_X12_force 8 0 9 := Or.inl ⟨0, by decide +kernel, rfl, rfl⟩
theorem r_12_force_9 : RG M_X12_force 9 12 42 12 := ⟨376, _, by decide +kernel, rfl, by decide, wd_f12_376, rfl, rfl⟩
theorem r_12_force_12 : RB M_X12_force 12 (.if_icmp .ge) 63 15 := ⟨51, by decide +kernel, rfl, rfl⟩
theorem r_12_force_63 : RL M_X12_force 63 4 65 := Or.inr ⟨by decide +kernel, rfl⟩
theorem r_12_force_65 : RW M_X12_force 65 .ireturn 66 1 := ⟨by decide +kernel, rfl⟩
theorem r_12_force_15 : RA M_X12_force 15 0 16 := Or.inl ⟨0, by decide +kernel, rfl, rfl⟩
theorem r_12_force_16 : RG M_X12_force 16 12 39 19 := ⟨103, _, by decide +kernel, rfl, by decide, wd_f12_103, rfl, rfl⟩
theorem r_12_force_19 : RL M_X12_force 19 5 21 := Or.inr ⟨by decide +kernel, rfl⟩
theorem r_12_force_21 : RW M_X12_force 21 .iaload 22 1 := ⟨by decide +kernel, rfl⟩
theorem r_12_force_22 : RL M_X12_force 22 1 23 := Or.inl ⟨1, by decide +kernel, rfl, rfl⟩
theorem r_12_force_23 : RB M_X12_force 23 (.if_icmp .ne) 53 26 := ⟨30, by decide +kernel, rfl, rfl⟩
theorem r_12_force_53 : RL M_X12_force 53 4 55 := Or.inr ⟨by decide +kernel, rfl⟩
theorem r_12_force_55 : RS M_X12_force 55 4 57 := ⟨by decide, Or.inr ⟨by decide +kernel, rfl⟩⟩
theorem r_12_force_57 : RI M_X12_force 57 5 1 60 := ⟨by decide, by decide +kernel, rfl⟩
theorem r_12_force_60 : RB M_X12_force 60 .goto 6 63 := ⟨(-54), by decide +kernel, rfl, rfl⟩
theorem r_12_force_26 : RA M_X12_force 26 0 27 := Or.inl ⟨0, by decide +kernel, rfl, rfl⟩
theorem r_12_force_27 : RG M_X12_force 27 12 40 30 := ⟨106, _, by decide +kernel, rfl, by decide, wd_f12_106, rfl, rfl⟩
theorem r_12_force_30 : RL M_X12_force 30 5 32 := Or.inr ⟨by decide +kernel, rfl⟩
theorem r_12_force_32 : RW M_X12_force 32 .iaload 33 1 := ⟨by decide +kernel, rfl⟩
theorem r_12_force_33 : RL M_X12_force 33 3 34 := Or.inl ⟨3, by decide +kernel, rfl, rfl⟩
theorem r_12_force_34 : RB M_X12_force 34 (.if_icmp .gt) 53 37 := ⟨19, by decide +kernel, rfl, rfl⟩
theorem r_12_force_37 : RA M_X12_force 37 0 38 := Or.inl ⟨0, by decide +kernel, rfl, rfl⟩
theorem r_12_force_38 : RG M_X12_force 38 12 41 41 := ⟨109, _, by decide +kernel, rfl, by decide, wd_f12_109, rfl, rfl⟩
theorem r_12_force_41 : RL M_X12_force 41 5 43 := Or.inr ⟨by decide +kernel, rfl⟩
theorem r_12_force_43 : RW M_X12_force 43 .iaload 44 1 := ⟨by decide +kernel, rfl⟩
theorem r_12_force_44 : RL M_X12_force 44 2 45 := Or.inl ⟨2, by decide +kernel, rfl, rfl⟩
theorem r_12_force_45 : RB M_X12_force 45 (.if_icmp .gt) 53 48 := ⟨8, by decide +kernel, rfl, rfl⟩
theorem r_12_force_48 : RL M_X12_force 48 5 50 := Or.inr ⟨by decide +kernel, rfl⟩
theorem r_12_force_50 : RB M_X12_force 50 .goto 55 53 := ⟨5, by decide +kernel, rfl, rfl⟩
theorem r_8_tellInForce_0 : RL M_X8_tellInForce 0 1 1 := Or.inl ⟨1, by decide +kernel, rfl, rfl⟩
theorem r_8_tellInForce_1 : RKs M_X8_tellInForce M_X8_isPurpose 1 1 4 := ⟨56, by decide +kernel, Or.inl wd_m8_56, ok_M_X8_isPurpose, rfl⟩
theorem r_8_tellInForce_4 : RB M_X8_tellInForce 4 (.ifCond .eq) 21 7 := ⟨17, by decide +kernel, rfl, rfl⟩
theorem r_8_tellInForce_21 : RC M_X8_tellInForce 21 (-1) 22 := ⟨⟨by decide, by decide⟩, Or.inl ⟨by decide +kernel, rfl⟩⟩
theorem r_8_tellInForce_22 : RW M_X8_tellInForce 22 .ireturn 23 1 := ⟨by decide +kernel, rfl⟩
theorem r_8_tellInForce_7 : RL M_X8_tellInForce 7 2 8 := Or.inl ⟨2, by decide +kernel, rfl, rfl⟩
theorem r_8_tellInForce_8 : RKs M_X8_tellInForce M_X11_isDay 8 1 11 := ⟨60, by decide +kernel, Or.inr (by decide +kernel), ok_M_X11_isDay, rfl⟩
theorem r_8_tellInForce_11 : RB M_X8_tellInForce 11 (.ifCond .eq) 21 14 := ⟨10, by decide +kernel, rfl, rfl⟩
theorem r_8_tellInForce_14 : RL M_X8_tellInForce 14 3 15 := Or.inl ⟨3, by decide +kernel, rfl, rfl⟩
theorem r_8_tellInForce_15 : RKs M_X8_tellInForce M_X11_isDay 15 1 18 := ⟨60, by decide +kernel, Or.inr (by decide +kernel), ok_M_X11_isDay, rfl⟩
theorem r_8_tellInForce_18 : RB M_X8_tellInForce 18 (.ifCond .ne) 23 21 := ⟨5, by decide +kernel, rfl, rfl⟩
theorem r_8_tellInForce_23 : RA M_X8_tellInForce 23 0 24 := Or.inl ⟨0, by decide +kernel, rfl, rfl⟩
theorem r_8_tellInForce_24 : RL M_X8_tellInForce 24 1 25 := Or.inl ⟨1, by decide +kernel, rfl, rfl⟩
theorem r_8_tellInForce_25 : RL M_X8_tellInForce 25 2 26 := Or.inl ⟨2, by decide +kernel, rfl, rfl⟩
theorem r_8_tellInForce_26 : RL M_X8_tellInForce 26 3 27 := Or.inl ⟨3, by decide +kernel, rfl, rfl⟩
theorem r_8_tellInForce_27 : RKv M_X8_tellInForce M_X8_findInForce 27 3 8 30 := ⟨84, by decide +kernel, wd_m8_84, ok_M_X8_findInForce, wd_s8_findInForce, rfl⟩
theorem r_8_tellInForce_30 : RS M_X8_tellInForce 30 4 32 := ⟨by decide, Or.inr ⟨by decide +kernel, rfl⟩⟩
theorem r_8_tellInForce_32 : RL M_X8_tellInForce 32 4 34 := Or.inr ⟨by decide +kernel, rfl⟩
theorem r_8_tellInForce_34 : RB M_X8_tellInForce 34 (.ifCond .ge) 42 37 := ⟨8, by decide +kernel, rfl, rfl⟩
theorem r_8_tellInForce_42 : RL M_X8_tellInForce 42 4 44 := Or.inr ⟨by decide +kernel, rfl⟩
theorem r_8_tellInForce_44 : RW M_X8_tellInForce 44 .ireturn 45 1 := ⟨by decide +kernel, rfl⟩
theorem r_8_tellInForce_37 : RC M_X8_tellInForce 37 (-4) 39 := ⟨⟨by decide, by decide⟩, Or.inr (Or.inl ⟨by decide +kernel, by decide, rfl⟩)⟩
theorem r_8_tellInForce_39 : RB M_X8_tellInForce 39 .goto 44 42 := ⟨5, by decide +kernel, rfl, rfl⟩
theorem r_12_inForce_0 : RL M_X12_inForce 0 1 1 := Or.inl ⟨1, by decide +kernel, rfl, rfl⟩
theorem r_12_inForce_1 : RKs M_X12_inForce M_X12_isWhat 1 1 4 := ⟨373, by decide +kernel, Or.inl wd_m12_373, ok_M_X12_isWhat, rfl⟩
theorem r_12_inForce_4 : RB M_X12_inForce 4 (.ifCond .eq) 21 7 := ⟨17, by decide +kernel, rfl, rfl⟩
theorem r_12_inForce_21 : RC M_X12_inForce 21 (-1) 22 := ⟨⟨by decide, by decide⟩, Or.inl ⟨by decide +kernel, rfl⟩⟩
theorem r_12_inForce_22 : RW M_X12_inForce 22 .ireturn 23 1 := ⟨by decide +kernel, rfl⟩
theorem r_12_inForce_7 : RL M_X12_inForce 7 2 8 := Or.inl ⟨2, by decide +kernel, rfl, rfl⟩
theorem r_12_inForce_8 : RKs M_X12_inForce M_X12_isDay 8 1 11 := ⟨302, by decide +kernel, Or.inl wd_m12_302, ok_M_X12_isDay, rfl⟩
theorem r_12_inForce_11 : RB M_X12_inForce 11 (.ifCond .eq) 21 14 := ⟨10, by decide +kernel, rfl, rfl⟩
theorem r_12_inForce_14 : RL M_X12_inForce 14 3 15 := Or.inl ⟨3, by decide +kernel, rfl, rfl⟩
theorem r_12_inForce_15 : RKs M_X12_inForce M_X12_isDay 15 1 18 := ⟨302, by decide +kernel, Or.inl wd_m12_302, ok_M_X12_isDay, rfl⟩
theorem r_12_inForce_18 : RB M_X12_inForce 18 (.ifCond .ne) 23 21 := ⟨5, by decide +kernel, rfl, rfl⟩
theorem r_12_inForce_23 : RA M_X12_inForce 23 0 24 := Or.inl ⟨0, by decide +kernel, rfl, rfl⟩
theorem r_12_inForce_24 : RL M_X12_inForce 24 1 25 := Or.inl ⟨1, by decide +kernel, rfl, rfl⟩
theorem r_12_inForce_25 : RL M_X12_inForce 25 2 26 := Or.inl ⟨2, by decide +kernel, rfl, rfl⟩
theorem r_12_inForce_26 : RL M_X12_inForce 26 3 27 := Or.inl ⟨3, by decide +kernel, rfl, rfl⟩
theorem r_12_inForce_27 : RKv M_X12_inForce M_X12_force 27 3 12 30 := ⟨382, by decide +kernel, wd_m12_382, ok_M_X12_force, wd_s12_force, rfl⟩
theorem r_12_inForce_30 : RS M_X12_inForce 30 4 32 := ⟨by decide, Or.inr ⟨by decide +kernel, rfl⟩⟩
theorem r_12_inForce_32 : RL M_X12_inForce 32 4 34 := Or.inr ⟨by decide +kernel, rfl⟩
theorem r_12_inForce_34 : RB M_X12_inForce 34 (.ifCond .ge) 42 37 := ⟨8, by decide +kernel, rfl, rfl⟩
theorem r_12_inForce_42 : RL M_X12_inForce 42 4 44 := Or.inr ⟨by decide +kernel, rfl⟩
theorem r_12_inForce_44 : RW M_X12_inForce 44 .ireturn 45 1 := ⟨by decide +kernel, rfl⟩
theorem r_12_inForce_37 : RC M_X12_inForce 37 (-4) 39 := ⟨⟨by decide, by decide⟩, Or.inr (Or.inl ⟨by decide +kernel, by decide, rfl⟩)⟩
theorem r_12_inForce_39 : RB M_X12_inForce 39 .goto 44 42 := ⟨5, by decide +kernel, rfl, rfl⟩
theorem r_11_feed_0 : RA M_X11_feed 0 0 1 := Or.inl ⟨0, by decide +kernel, rfl, rfl⟩
theorem r_11_feed_1 : RG M_X11_feed 1 11 3 4 := ⟨39, _, by decide +kernel, rfl, by decide, wd_f11_39, rfl, rfl⟩
theorem r_11_feed_4 : RL M_X11_feed 4 1 5 := Or.inl ⟨1, by decide +kernel, rfl, rfl⟩
theorem r_11_feed_5 : RL M_X11_feed 5 2 6 := Or.inl ⟨2, by decide +kernel, rfl, rfl⟩
theorem r_11_feed_6 : RKv M_X11_feed M_X8_addBytes 6 2 8 9 := ⟨139, by decide +kernel, wd_m11_139, ok_M_X8_addBytes, wd_s8_addBytes, rfl⟩
theorem r_11_feed_9 : RW M_X11_feed 9 .ireturn 10 1 := ⟨by decide +kernel, rfl⟩
theorem r_11_inForce_0 : RA M_X11_inForce 0 0 1 := Or.inl ⟨0, by decide +kernel, rfl, rfl⟩
theorem r_11_inForce_1 : RG M_X11_inForce 1 11 3 4 := ⟨39, _, by decide +kernel, rfl, by decide, wd_f11_39, rfl, rfl⟩
theorem r_11_inForce_4 : RL M_X11_inForce 4 1 5 := Or.inl ⟨1, by decide +kernel, rfl, rfl⟩
theorem r_11_inForce_5 : RL M_X11_inForce 5 2 6 := Or.inl ⟨2, by decide +kernel, rfl, rfl⟩
theorem r_11_inForce_6 : RL M_X11_inForce 6 3 7 := Or.inl ⟨3, by decide +kernel, rfl, rfl⟩
theorem r_11_inForce_7 : RKv M_X11_inForce M_X8_tellInForce 7 3 8 10 := ⟨145, by decide +kernel, wd_m11_145, ok_M_X8_tellInForce, wd_s8_tellInForce, rfl⟩
theorem r_11_inForce_10 : RW M_X11_inForce 10 .ireturn 11 1 := ⟨by decide +kernel, rfl⟩
theorem r_5_isTable_0 : RL M_X5_isTable 0 0 1 := Or.inl ⟨0, by decide +kernel, rfl, rfl⟩
theorem r_5_isTable_1 : RC M_X5_isTable 1 0 2 := ⟨⟨by decide, by decide⟩, Or.inl ⟨by decide +kernel, rfl⟩⟩
theorem r_5_isTable_2 : RC M_X5_isTable 2 3 3 := ⟨⟨by decide, by decide⟩, Or.inl ⟨by decide +kernel, rfl⟩⟩
theorem r_5_isTable_3 : RKs M_X5_isTable M_X11_within 3 3 6 := ⟨65, by decide +kernel, Or.inr (by decide +kernel), ok_M_X11_within, rfl⟩
theorem r_5_isTable_6 : RW M_X5_isTable 6 .ireturn 7 1 := ⟨by decide +kernel, rfl⟩
theorem r_12_isTable_0 : RL M_X12_isTable 0 0 1 := Or.inl ⟨0, by decide +kernel, rfl, rfl⟩
theorem r_12_isTable_1 : RC M_X12_isTable 1 0 2 := ⟨⟨by decide, by decide⟩, Or.inl ⟨by decide +kernel, rfl⟩⟩
theorem r_12_isTable_2 : RC M_X12_isTable 2 3 3 := ⟨⟨by decide, by decide⟩, Or.inl ⟨by decide +kernel, rfl⟩⟩
theorem r_12_isTable_3 : RKs M_X12_isTable M_X12_within 3 3 6 := ⟨240, by decide +kernel, Or.inl wd_m12_240, ok_M_X12_within, rfl⟩
theorem r_12_isTable_6 : RW M_X12_isTable 6 .ireturn 7 1 := ⟨by decide +kernel, rfl⟩
theorem r_5_setTable_0 : RL M_X5_setTable 0 1 1 := Or.inl ⟨1, by decide +kernel, rfl, rfl⟩
theorem r_5_setTable_1 : RKs M_X5_setTable M_X5_isTable 1 1 4 := ⟨104, by decide +kernel, Or.inl wd_m5_104, ok_M_X5_isTable, rfl⟩
theorem r_5_setTable_4 : RB M_X5_setTable 4 (.ifCond .eq) 16 7 := ⟨12, by decide +kernel, rfl, rfl⟩
theorem r_5_setTable_16 : RC M_X5_setTable 16 (-1) 17 := ⟨⟨by decide, by decide⟩, Or.inl ⟨by decide +kernel, rfl⟩⟩
theorem r_5_setTable_17 : RW M_X5_setTable 17 .ireturn 18 1 := ⟨by decide +kernel, rfl⟩
theorem r_5_setTable_7 : RL M_X5_setTable 7 2 8 := Or.inl ⟨2, by decide +kernel, rfl, rfl⟩
theorem r_5_setTable_8 : RC M_X5_setTable 8 (-1) 9 := ⟨⟨by decide, by decide⟩, Or.inl ⟨by decide +kernel, rfl⟩⟩
theorem r_5_setTable_9 : RC M_X5_setTable 9 1 10 := ⟨⟨by decide, by decide⟩, Or.inl ⟨by decide +kernel, rfl⟩⟩
theorem r_5_setTable_10 : RKs M_X5_setTable M_X11_within 10 3 13 := ⟨65, by decide +kernel, Or.inr (by decide +kernel), ok_M_X11_within, rfl⟩
theorem r_5_setTable_13 : RB M_X5_setTable 13 (.ifCond .ne) 18 16 := ⟨5, by decide +kernel, rfl, rfl⟩
theorem r_5_setTable_18 : RL M_X5_setTable 18 2 19 := Or.inl ⟨2, by decide +kernel, rfl, rfl⟩
theorem r_5_setTable_19 : RC M_X5_setTable 19 (-1) 20 := ⟨⟨by decide, by decide⟩, Or.inl ⟨by decide +kernel, rfl⟩⟩
theorem r_5_setTable_20 : RB M_X5_setTable 20 (.if_icmp .eq) 35 23 := ⟨15, by decide +kernel, rfl, rfl⟩
theorem r_5_setTable_35 : RA M_X5_setTable 35 0 36 := Or.inl ⟨0, by decide +kernel, rfl, rfl⟩
theorem r_5_setTable_36 : RG M_X5_setTable 36 5 10 39 := ⟨44, _, by decide +kernel, rfl, by decide, wd_f5_44, rfl, rfl⟩
theorem r_5_setTable_39 : RL M_X5_setTable 39 1 40 := Or.inl ⟨1, by decide +kernel, rfl, rfl⟩
theorem r_5_setTable_40 : RL M_X5_setTable 40 2 41 := Or.inl ⟨2, by decide +kernel, rfl, rfl⟩
theorem r_5_setTable_41 : RW M_X5_setTable 41 .iastore 42 1 := ⟨by decide +kernel, rfl⟩
theorem r_5_setTable_42 : RA M_X5_setTable 42 0 43 := Or.inl ⟨0, by decide +kernel, rfl, rfl⟩
theorem r_5_setTable_43 : RG M_X5_setTable 43 5 11 46 := ⟨47, _, by decide +kernel, rfl, by decide, wd_f5_47, rfl, rfl⟩
theorem r_5_setTable_46 : RL M_X5_setTable 46 1 47 := Or.inl ⟨1, by decide +kernel, rfl, rfl⟩
theorem r_5_setTable_47 : RL M_X5_setTable 47 2 48 := Or.inl ⟨2, by decide +kernel, rfl, rfl⟩
theorem r_5_setTable_48 : RC M_X5_setTable 48 (-1) 49 := ⟨⟨by decide, by decide⟩, Or.inl ⟨by decide +kernel, rfl⟩⟩
theorem r_5_setTable_49 : RB M_X5_setTable 49 (.if_icmp .ne) 56 52 := ⟨7, by decide +kernel, rfl, rfl⟩
theorem r_5_setTable_56 : RL M_X5_setTable 56 3 57 := Or.inl ⟨3, by decide +kernel, rfl, rfl⟩
theorem r_5_setTable_57 : RW M_X5_setTable 57 .iastore 58 1 := ⟨by decide +kernel, rfl⟩
theorem r_5_setTable_58 : RC M_X5_setTable 58 0 59 := ⟨⟨by decide, by decide⟩, Or.inl ⟨by decide +kernel, rfl⟩⟩
theorem r_5_setTable_59 : RS M_X5_setTable 59 4 61 := ⟨by decide, Or.inr ⟨by decide +kernel, rfl⟩⟩
theorem r_5_setTable_61 : RL M_X5_setTable 61 4 63 := Or.inr ⟨by decide +kernel, rfl⟩
theorem r_5_setTable_63 : RC M_X5_setTable 63 60 65 := ⟨⟨by decide, by decide⟩, Or.inr (Or.inl ⟨by decide +kernel, by decide, rfl⟩)⟩
theorem r_5_setTable_65 : RB M_X5_setTable 65 (.if_icmp .ge) 84 68 := ⟨19, by decide +kernel, rfl, rfl⟩
theorem r_5_setTable_84 : RC M_X5_setTable 84 1 85 := ⟨⟨by decide, by decide⟩, Or.inl ⟨by decide +kernel, rfl⟩⟩
theorem r_5_setTable_85 : RW M_X5_setTable 85 .ireturn 86 1 := ⟨by decide +kernel, rfl⟩
theorem r_5_setTable_68 : RA M_X5_setTable 68 0 69 := Or.inl ⟨0, by decide +kernel, rfl, rfl⟩
theorem r_5_setTable_69 : RG M_X5_setTable 69 5 9 72 := ⟨41, _, by decide +kernel, rfl, by decide, wd_f5_41, rfl, rfl⟩
theorem r_5_setTable_72 : RL M_X5_setTable 72 1 73 := Or.inl ⟨1, by decide +kernel, rfl, rfl⟩
theorem r_5_setTable_73 : RW M_X5_setTable 73 .aaload 74 1 := ⟨by decide +kernel, rfl⟩
theorem r_5_setTable_74 : RL M_X5_setTable 74 4 76 := Or.inr ⟨by decide +kernel, rfl⟩
theorem r_5_setTable_76 : RC M_X5_setTable 76 0 77 := ⟨⟨by decide, by decide⟩, Or.inl ⟨by decide +kernel, rfl⟩⟩
theorem r_5_setTable_77 : RW M_X5_setTable 77 .sastore 78 1 := ⟨by decide +kernel, rfl⟩
theorem r_5_setTable_78 : RI M_X5_setTable 78 4 1 81 := ⟨by decide, by decide +kernel, rfl⟩
theorem r_5_setTable_81 : RB M_X5_setTable 81 .goto 61 84 := ⟨(-20), by decide +kernel, rfl, rfl⟩
theorem r_5_setTable_52 : RC M_X5_setTable 52 0 53 := ⟨⟨by decide, by decide⟩, Or.inl ⟨by decide +kernel, rfl⟩⟩
theorem r_5_setTable_53 : RB M_X5_setTable 53 .goto 57 56 := ⟨4, by decide +kernel, rfl, rfl⟩
theorem r_5_setTable_23 : RL M_X5_setTable 23 3 24 := Or.inl ⟨3, by decide +kernel, rfl, rfl⟩
theorem r_5_setTable_24 : RC M_X5_setTable 24 0 25 := ⟨⟨by decide, by decide⟩, Or.inl ⟨by decide +kernel, rfl⟩⟩
theorem r_5_setTable_25 : RC M_X5_setTable 25 60 27 := ⟨⟨by decide, by decide⟩, Or.inr (Or.inl ⟨by decide +kernel, by decide, rfl⟩)⟩
theorem r_5_setTable_27 : RKs M_X5_setTable M_X11_within 27 3 30 := ⟨65, by decide +kernel, Or.inr (by decide +kernel), ok_M_X11_within, rfl⟩
theorem r_5_setTable_30 : RB M_X5_setTable 30 (.ifCond .ne) 35 33 := ⟨5, by decide +kernel, rfl, rfl⟩
theorem r_5_setTable_33 : RC M_X5_setTable 33 (-1) 34 := ⟨⟨by decide, by decide⟩, Or.inl ⟨by decide +kernel, rfl⟩⟩
theorem r_5_setTable_34 : RW M_X5_setTable 34 .ireturn 35 1 := ⟨by decide +kernel, rfl⟩
theorem r_12_table_0 : RL M_X12_table 0 1 1 := Or.inl ⟨1, by decide +kernel, rfl, rfl⟩
theorem r_12_table_1 : RKs M_X12_table M_X12_isTable 1 1 4 := ⟨428, by decide +kernel, Or.inl wd_m12_428, ok_M_X12_isTable, rfl⟩
theorem r_12_table_4 : RB M_X12_table 4 (.ifCond .eq) 30 7 := ⟨26, by decide +kernel, rfl, rfl⟩
theorem r_12_table_30 : RC M_X12_table 30 (-1) 31 := ⟨⟨by decide, by decide⟩, Or.inl ⟨by decide +kernel, rfl⟩⟩
theorem r_12_table_31 : RW M_X12_table 31 .ireturn 32 1 := ⟨by decide +kernel, rfl⟩
theorem r_12_table_7 : RL M_X12_table 7 2 8 := Or.inl ⟨2, by decide +kernel, rfl, rfl⟩
theorem r_12_table_8 : RC M_X12_table 8 (-1) 9 := ⟨⟨by decide, by decide⟩, Or.inl ⟨by decide +kernel, rfl⟩⟩
theorem r_12_table_9 : RC M_X12_table 9 1 10 := ⟨⟨by decide, by decide⟩, Or.inl ⟨by decide +kernel, rfl⟩⟩
theorem r_12_table_10 : RKs M_X12_table M_X12_within 10 3 13 := ⟨240, by decide +kernel, Or.inl wd_m12_240, ok_M_X12_within, rfl⟩
theorem r_12_table_13 : RB M_X12_table 13 (.ifCond .eq) 30 16 := ⟨17, by decide +kernel, rfl, rfl⟩
theorem r_12_table_16 : RL M_X12_table 16 2 17 := Or.inl ⟨2, by decide +kernel, rfl, rfl⟩
theorem r_12_table_17 : RB M_X12_table 17 (.ifCond .lt) 32 20 := ⟨15, by decide +kernel, rfl, rfl⟩
theorem r_12_table_32 : RA M_X12_table 32 0 33 := Or.inl ⟨0, by decide +kernel, rfl, rfl⟩
theorem r_12_table_33 : RG M_X12_table 33 12 106 36 := ⟨231, _, by decide +kernel, rfl, by decide, wd_f12_231, rfl, rfl⟩
theorem r_12_table_36 : RL M_X12_table 36 1 37 := Or.inl ⟨1, by decide +kernel, rfl, rfl⟩
theorem r_12_table_37 : RL M_X12_table 37 2 38 := Or.inl ⟨2, by decide +kernel, rfl, rfl⟩
theorem r_12_table_38 : RW M_X12_table 38 .iastore 39 1 := ⟨by decide +kernel, rfl⟩
theorem r_12_table_39 : RA M_X12_table 39 0 40 := Or.inl ⟨0, by decide +kernel, rfl, rfl⟩
theorem r_12_table_40 : RG M_X12_table 40 12 107 43 := ⟨234, _, by decide +kernel, rfl, by decide, wd_f12_234, rfl, rfl⟩
theorem r_12_table_43 : RL M_X12_table 43 1 44 := Or.inl ⟨1, by decide +kernel, rfl, rfl⟩
theorem r_12_table_44 : RL M_X12_table 44 2 45 := Or.inl ⟨2, by decide +kernel, rfl, rfl⟩
theorem r_12_table_45 : RB M_X12_table 45 (.ifCond .ge) 52 48 := ⟨7, by decide +kernel, rfl, rfl⟩
theorem r_12_table_52 : RL M_X12_table 52 3 53 := Or.inl ⟨3, by decide +kernel, rfl, rfl⟩
theorem r_12_table_53 : RW M_X12_table 53 .iastore 54 1 := ⟨by decide +kernel, rfl⟩
theorem r_12_table_54 : RC M_X12_table 54 60 56 := ⟨⟨by decide, by decide⟩, Or.inr (Or.inl ⟨by decide +kernel, by decide, rfl⟩)⟩
theorem r_12_table_56 : RL M_X12_table 56 1 57 := Or.inl ⟨1, by decide +kernel, rfl, rfl⟩
theorem r_12_table_57 : RW M_X12_table 57 .imul 58 1 := ⟨by decide +kernel, rfl⟩
theorem r_12_table_58 : RS M_X12_table 58 4 60 := ⟨by decide, Or.inr ⟨by decide +kernel, rfl⟩⟩
theorem r_12_table_60 : RL M_X12_table 60 4 62 := Or.inr ⟨by decide +kernel, rfl⟩
theorem r_12_table_62 : RC M_X12_table 62 60 64 := ⟨⟨by decide, by decide⟩, Or.inr (Or.inl ⟨by decide +kernel, by decide, rfl⟩)⟩
theorem r_12_table_64 : RL M_X12_table 64 1 65 := Or.inl ⟨1, by decide +kernel, rfl, rfl⟩
theorem r_12_table_65 : RW M_X12_table 65 .imul 66 1 := ⟨by decide +kernel, rfl⟩
theorem r_12_table_66 : RC M_X12_table 66 60 68 := ⟨⟨by decide, by decide⟩, Or.inr (Or.inl ⟨by decide +kernel, by decide, rfl⟩)⟩
theorem r_12_table_68 : RW M_X12_table 68 .iadd 69 1 := ⟨by decide +kernel, rfl⟩
theorem r_12_table_69 : RB M_X12_table 69 (.if_icmp .ge) 86 72 := ⟨17, by decide +kernel, rfl, rfl⟩
theorem r_12_table_86 : RC M_X12_table 86 1 87 := ⟨⟨by decide, by decide⟩, Or.inl ⟨by decide +kernel, rfl⟩⟩
theorem r_12_table_87 : RW M_X12_table 87 .ireturn 88 1 := ⟨by decide +kernel, rfl⟩
theorem r_12_table_72 : RA M_X12_table 72 0 73 := Or.inl ⟨0, by decide +kernel, rfl, rfl⟩
theorem r_12_table_73 : RG M_X12_table 73 12 108 76 := ⟨237, _, by decide +kernel, rfl, by decide, wd_f12_237, rfl, rfl⟩
theorem r_12_table_76 : RL M_X12_table 76 4 78 := Or.inr ⟨by decide +kernel, rfl⟩
theorem r_12_table_78 : RC M_X12_table 78 0 79 := ⟨⟨by decide, by decide⟩, Or.inl ⟨by decide +kernel, rfl⟩⟩
theorem r_12_table_79 : RW M_X12_table 79 .iastore 80 1 := ⟨by decide +kernel, rfl⟩
theorem r_12_table_80 : RI M_X12_table 80 4 1 83 := ⟨by decide, by decide +kernel, rfl⟩
theorem r_12_table_83 : RB M_X12_table 83 .goto 60 86 := ⟨(-23), by decide +kernel, rfl, rfl⟩
theorem r_12_table_48 : RC M_X12_table 48 0 49 := ⟨⟨by decide, by decide⟩, Or.inl ⟨by decide +kernel, rfl⟩⟩
theorem r_12_table_49 : RB M_X12_table 49 .goto 53 52 := ⟨4, by decide +kernel, rfl, rfl⟩
theorem r_12_table_20 : RL M_X12_table 20 3 21 := Or.inl ⟨3, by decide +kernel, rfl, rfl⟩
theorem r_12_table_21 : RC M_X12_table 21 0 22 := ⟨⟨by decide, by decide⟩, Or.inl ⟨by decide +kernel, rfl⟩⟩
theorem r_12_table_22 : RC M_X12_table 22 60 24 := ⟨⟨by decide, by decide⟩, Or.inr (Or.inl ⟨by decide +kernel, by decide, rfl⟩)⟩
theorem r_12_table_24 : RKs M_X12_table M_X12_within 24 3 27 := ⟨240, by decide +kernel, Or.inl wd_m12_240, ok_M_X12_within, rfl⟩
theorem r_12_table_27 : RB M_X12_table 27 (.ifCond .ne) 32 30 := ⟨5, by decide +kernel, rfl, rfl⟩
theorem r_5_setItem_0 : RL M_X5_setItem 0 1 1 := Or.inl ⟨1, by decide +kernel, rfl, rfl⟩
theorem r_5_setItem_1 : RKs M_X5_setItem M_X5_isTable 1 1 4 := ⟨104, by decide +kernel, Or.inl wd_m5_104, ok_M_X5_isTable, rfl⟩
theorem r_5_setItem_4 : RB M_X5_setItem 4 (.ifCond .ne) 9 7 := ⟨5, by decide +kernel, rfl, rfl⟩
theorem r_5_setItem_9 : RA M_X5_setItem 9 0 10 := Or.inl ⟨0, by decide +kernel, rfl, rfl⟩
theorem r_5_setItem_10 : RG M_X5_setItem 10 5 10 13 := ⟨44, _, by decide +kernel, rfl, by decide, wd_f5_44, rfl, rfl⟩
theorem r_5_setItem_13 : RL M_X5_setItem 13 1 14 := Or.inl ⟨1, by decide +kernel, rfl, rfl⟩
theorem r_5_setItem_14 : RW M_X5_setItem 14 .iaload 15 1 := ⟨by decide +kernel, rfl⟩
theorem r_5_setItem_15 : RC M_X5_setItem 15 (-1) 16 := ⟨⟨by decide, by decide⟩, Or.inl ⟨by decide +kernel, rfl⟩⟩
theorem r_5_setItem_16 : RB M_X5_setItem 16 (.if_icmp .ne) 22 19 := ⟨6, by decide +kernel, rfl, rfl⟩
theorem r_5_setItem_22 : RL M_X5_setItem 22 2 23 := Or.inl ⟨2, by decide +kernel, rfl, rfl⟩
theorem r_5_setItem_23 : RB M_X5_setItem 23 (.ifCond .lt) 36 26 := ⟨13, by decide +kernel, rfl, rfl⟩
theorem r_5_setItem_36 : RC M_X5_setItem 36 (-1) 37 := ⟨⟨by decide, by decide⟩, Or.inl ⟨by decide +kernel, rfl⟩⟩
theorem r_5_setItem_37 : RW M_X5_setItem 37 .ireturn 38 1 := ⟨by decide +kernel, rfl⟩
theorem r_5_setItem_26 : RL M_X5_setItem 26 2 27 := Or.inl ⟨2, by decide +kernel, rfl, rfl⟩
theorem r_5_setItem_27 : RA M_X5_setItem 27 0 28 := Or.inl ⟨0, by decide +kernel, rfl, rfl⟩
theorem r_5_setItem_28 : RG M_X5_setItem 28 5 11 31 := ⟨47, _, by decide +kernel, rfl, by decide, wd_f5_47, rfl, rfl⟩
theorem r_5_setItem_31 : RL M_X5_setItem 31 1 32 := Or.inl ⟨1, by decide +kernel, rfl, rfl⟩
theorem r_5_setItem_32 : RW M_X5_setItem 32 .iaload 33 1 := ⟨by decide +kernel, rfl⟩
theorem r_5_setItem_33 : RB M_X5_setItem 33 (.if_icmp .lt) 38 36 := ⟨5, by decide +kernel, rfl, rfl⟩
theorem r_5_setItem_38 : RA M_X5_setItem 38 0 39 := Or.inl ⟨0, by decide +kernel, rfl, rfl⟩
theorem r_5_setItem_39 : RG M_X5_setItem 39 5 9 42 := ⟨41, _, by decide +kernel, rfl, by decide, wd_f5_41, rfl, rfl⟩
theorem r_5_setItem_42 : RL M_X5_setItem 42 1 43 := Or.inl ⟨1, by decide +kernel, rfl, rfl⟩
theorem r_5_setItem_43 : RW M_X5_setItem 43 .aaload 44 1 := ⟨by decide +kernel, rfl⟩
theorem r_5_setItem_44 : RL M_X5_setItem 44 2 45 := Or.inl ⟨2, by decide +kernel, rfl, rfl⟩
theorem r_5_setItem_45 : RA M_X5_setItem 45 0 46 := Or.inl ⟨0, by decide +kernel, rfl, rfl⟩
theorem r_5_setItem_46 : RG M_X5_setItem 46 5 10 49 := ⟨44, _, by decide +kernel, rfl, by decide, wd_f5_44, rfl, rfl⟩
theorem r_5_setItem_49 : RL M_X5_setItem 49 1 50 := Or.inl ⟨1, by decide +kernel, rfl, rfl⟩
theorem r_5_setItem_50 : RW M_X5_setItem 50 .iaload 51 1 := ⟨by decide +kernel, rfl⟩
theorem r_5_setItem_51 : RB M_X5_setItem 51 (.ifCond .ne) 60 54 := ⟨9, by decide +kernel, rfl, rfl⟩
theorem r_5_setItem_60 : RL M_X5_setItem 60 3 61 := Or.inl ⟨3, by decide +kernel, rfl, rfl⟩
theorem r_5_setItem_61 : RW M_X5_setItem 61 .i2s 62 1 := ⟨by decide +kernel, rfl⟩
theorem r_5_setItem_62 : RW M_X5_setItem 62 .sastore 63 1 := ⟨by decide +kernel, rfl⟩
theorem r_5_setItem_63 : RC M_X5_setItem 63 1 64 := ⟨⟨by decide, by decide⟩, Or.inl ⟨by decide +kernel, rfl⟩⟩
theorem r_5_setItem_64 : RW M_X5_setItem 64 .ireturn 65 1 := ⟨by decide +kernel, rfl⟩
theorem r_5_setItem_54 : RL M_X5_setItem 54 3 55 := Or.inl ⟨3, by decide +kernel, rfl, rfl⟩
theorem r_5_setItem_55 : RW M_X5_setItem 55 .i2b 56 1 := ⟨by decide +kernel, rfl⟩
theorem r_5_setItem_56 : RW M_X5_setItem 56 .i2s 57 1 := ⟨by decide +kernel, rfl⟩
theorem r_5_setItem_57 : RB M_X5_setItem 57 .goto 62 60 := ⟨5, by decide +kernel, rfl, rfl⟩
theorem r_5_setItem_19 : RC M_X5_setItem 19 (-5) 21 := ⟨⟨by decide, by decide⟩, Or.inr (Or.inl ⟨by decide +kernel, by decide, rfl⟩)⟩
theorem r_5_setItem_21 : RW M_X5_setItem 21 .ireturn 22 1 := ⟨by decide +kernel, rfl⟩
theorem r_5_setItem_7 : RC M_X5_setItem 7 (-1) 8 := ⟨⟨by decide, by decide⟩, Or.inl ⟨by decide +kernel, rfl⟩⟩
theorem r_5_setItem_8 : RW M_X5_setItem 8 .ireturn 9 1 := ⟨by decide +kernel, rfl⟩
theorem r_12_item_0 : RL M_X12_item 0 1 1 := Or.inl ⟨1, by decide +kernel, rfl, rfl⟩
theorem r_12_item_1 : RKs M_X12_item M_X12_isTable 1 1 4 := ⟨428, by decide +kernel, Or.inl wd_m12_428, ok_M_X12_isTable, rfl⟩
theorem r_12_item_4 : RB M_X12_item 4 (.ifCond .ne) 9 7 := ⟨5, by decide +kernel, rfl, rfl⟩
theorem r_12_item_9 : RA M_X12_item 9 0 10 := Or.inl ⟨0, by decide +kernel, rfl, rfl⟩
theorem r_12_item_10 : RG M_X12_item 10 12 106 13 := ⟨231, _, by decide +kernel, rfl, by decide, wd_f12_231, rfl, rfl⟩
theorem r_12_item_13 : RL M_X12_item 13 1 14 := Or.inl ⟨1, by decide +kernel, rfl, rfl⟩
theorem r_12_item_14 : RW M_X12_item 14 .iaload 15 1 := ⟨by decide +kernel, rfl⟩
theorem r_12_item_15 : RB M_X12_item 15 (.ifCond .ge) 21 18 := ⟨6, by decide +kernel, rfl, rfl⟩
theorem r_12_item_21 : RL M_X12_item 21 2 22 := Or.inl ⟨2, by decide +kernel, rfl, rfl⟩
theorem r_12_item_22 : RB M_X12_item 22 (.ifCond .lt) 35 25 := ⟨13, by decide +kernel, rfl, rfl⟩
theorem r_12_item_35 : RC M_X12_item 35 (-1) 36 := ⟨⟨by decide, by decide⟩, Or.inl ⟨by decide +kernel, rfl⟩⟩
theorem r_12_item_36 : RW M_X12_item 36 .ireturn 37 1 := ⟨by decide +kernel, rfl⟩
theorem r_12_item_25 : RL M_X12_item 25 2 26 := Or.inl ⟨2, by decide +kernel, rfl, rfl⟩
theorem r_12_item_26 : RA M_X12_item 26 0 27 := Or.inl ⟨0, by decide +kernel, rfl, rfl⟩
theorem r_12_item_27 : RG M_X12_item 27 12 107 30 := ⟨234, _, by decide +kernel, rfl, by decide, wd_f12_234, rfl, rfl⟩
theorem r_12_item_30 : RL M_X12_item 30 1 31 := Or.inl ⟨1, by decide +kernel, rfl, rfl⟩
theorem r_12_item_31 : RW M_X12_item 31 .iaload 32 1 := ⟨by decide +kernel, rfl⟩
theorem r_12_item_32 : RB M_X12_item 32 (.if_icmp .lt) 37 35 := ⟨5, by decide +kernel, rfl, rfl⟩
theorem r_12_item_37 : RA M_X12_item 37 0 38 := Or.inl ⟨0, by decide +kernel, rfl, rfl⟩
theorem r_12_item_38 : RG M_X12_item 38 12 108 41 := ⟨237, _, by decide +kernel, rfl, by decide, wd_f12_237, rfl, rfl⟩
theorem r_12_item_41 : RC M_X12_item 41 60 43 := ⟨⟨by decide, by decide⟩, Or.inr (Or.inl ⟨by decide +kernel, by decide, rfl⟩)⟩
theorem r_12_item_43 : RL M_X12_item 43 1 44 := Or.inl ⟨1, by decide +kernel, rfl, rfl⟩
theorem r_12_item_44 : RW M_X12_item 44 .imul 45 1 := ⟨by decide +kernel, rfl⟩
theorem r_12_item_45 : RL M_X12_item 45 2 46 := Or.inl ⟨2, by decide +kernel, rfl, rfl⟩
theorem r_12_item_46 : RW M_X12_item 46 .iadd 47 1 := ⟨by decide +kernel, rfl⟩
theorem r_12_item_47 : RA M_X12_item 47 0 48 := Or.inl ⟨0, by decide +kernel, rfl, rfl⟩
theorem r_12_item_48 : RG M_X12_item 48 12 106 51 := ⟨231, _, by decide +kernel, rfl, by decide, wd_f12_231, rfl, rfl⟩
theorem r_12_item_51 : RL M_X12_item 51 1 52 := Or.inl ⟨1, by decide +kernel, rfl, rfl⟩
theorem r_12_item_52 : RW M_X12_item 52 .iaload 53 1 := ⟨by decide +kernel, rfl⟩
theorem r_12_item_53 : RB M_X12_item 53 (.ifCond .ne) 61 56 := ⟨8, by decide +kernel, rfl, rfl⟩
theorem r_12_item_61 : RL M_X12_item 61 3 62 := Or.inl ⟨3, by decide +kernel, rfl, rfl⟩
theorem r_12_item_62 : RW M_X12_item 62 .i2s 63 1 := ⟨by decide +kernel, rfl⟩
theorem r_12_item_63 : RW M_X12_item 63 .iastore 64 1 := ⟨by decide +kernel, rfl⟩
theorem r_12_item_64 : RC M_X12_item 64 1 65 := ⟨⟨by decide, by decide⟩, Or.inl ⟨by decide +kernel, rfl⟩⟩
theorem r_12_item_65 : RW M_X12_item 65 .ireturn 66 1 := ⟨by decide +kernel, rfl⟩
theorem r_12_item_56 : RL M_X12_item 56 3 57 := Or.inl ⟨3, by decide +kernel, rfl, rfl⟩
theorem r_12_item_57 : RW M_X12_item 57 .i2b 58 1 := ⟨by decide +kernel, rfl⟩
theorem r_12_item_58 : RB M_X12_item 58 .goto 63 61 := ⟨5, by decide +kernel, rfl, rfl⟩
theorem r_12_item_18 : RC M_X12_item 18 (-5) 20 := ⟨⟨by decide, by decide⟩, Or.inr (Or.inl ⟨by decide +kernel, by decide, rfl⟩)⟩
theorem r_12_item_20 : RW M_X12_item 20 .ireturn 21 1 := ⟨by decide +kernel, rfl⟩
theorem r_12_item_7 : RC M_X12_item 7 (-1) 8 := ⟨⟨by decide, by decide⟩, Or.inl ⟨by decide +kernel, rfl⟩⟩
theorem r_12_item_8 : RW M_X12_item 8 .ireturn 9 1 := ⟨by decide +kernel, rfl⟩
theorem r_5_tellItem_0 : RL M_X5_tellItem 0 1 1 := Or.inl ⟨1, by decide +kernel, rfl, rfl⟩
theorem r_5_tellItem_1 : RKs M_X5_tellItem M_X5_isTable 1 1 4 := ⟨104, by decide +kernel, Or.inl wd_m5_104, ok_M_X5_isTable, rfl⟩
theorem r_5_tellItem_4 : RB M_X5_tellItem 4 (.ifCond .eq) 21 7 := ⟨17, by decide +kernel, rfl, rfl⟩
theorem r_5_tellItem_21 : RC M_X5_tellItem 21 (-2000000000) 23 := ⟨⟨by decide, by decide⟩, Or.inr (Or.inr (Or.inr (Or.inl ⟨107, by decide +kernel, wd_c5_107, rfl⟩)))⟩
theorem r_5_tellItem_23 : RW M_X5_tellItem 23 .ireturn 24 1 := ⟨by decide +kernel, rfl⟩
theorem r_5_tellItem_7 : RL M_X5_tellItem 7 2 8 := Or.inl ⟨2, by decide +kernel, rfl, rfl⟩
theorem r_5_tellItem_8 : RB M_X5_tellItem 8 (.ifCond .lt) 21 11 := ⟨13, by decide +kernel, rfl, rfl⟩
theorem r_5_tellItem_11 : RL M_X5_tellItem 11 2 12 := Or.inl ⟨2, by decide +kernel, rfl, rfl⟩
theorem r_5_tellItem_12 : RA M_X5_tellItem 12 0 13 := Or.inl ⟨0, by decide +kernel, rfl, rfl⟩
theorem r_5_tellItem_13 : RG M_X5_tellItem 13 5 11 16 := ⟨47, _, by decide +kernel, rfl, by decide, wd_f5_47, rfl, rfl⟩
theorem r_5_tellItem_16 : RL M_X5_tellItem 16 1 17 := Or.inl ⟨1, by decide +kernel, rfl, rfl⟩
theorem r_5_tellItem_17 : RW M_X5_tellItem 17 .iaload 18 1 := ⟨by decide +kernel, rfl⟩
theorem r_5_tellItem_18 : RB M_X5_tellItem 18 (.if_icmp .lt) 24 21 := ⟨6, by decide +kernel, rfl, rfl⟩
theorem r_5_tellItem_24 : RA M_X5_tellItem 24 0 25 := Or.inl ⟨0, by decide +kernel, rfl, rfl⟩
theorem r_5_tellItem_25 : RG M_X5_tellItem 25 5 9 28 := ⟨41, _, by decide +kernel, rfl, by decide, wd_f5_41, rfl, rfl⟩
theorem r_5_tellItem_28 : RL M_X5_tellItem 28 1 29 := Or.inl ⟨1, by decide +kernel, rfl, rfl⟩
theorem r_5_tellItem_29 : RW M_X5_tellItem 29 .aaload 30 1 := ⟨by decide +kernel, rfl⟩
theorem r_5_tellItem_30 : RL M_X5_tellItem 30 2 31 := Or.inl ⟨2, by decide +kernel, rfl, rfl⟩
theorem r_5_tellItem_31 : RW M_X5_tellItem 31 .saload 32 1 := ⟨by decide +kernel, rfl⟩
theorem r_5_tellItem_32 : RW M_X5_tellItem 32 .ireturn 33 1 := ⟨by decide +kernel, rfl⟩
theorem r_12_read_0 : RL M_X12_read 0 1 1 := Or.inl ⟨1, by decide +kernel, rfl, rfl⟩
theorem r_12_read_1 : RKs M_X12_read M_X12_isTable 1 1 4 := ⟨428, by decide +kernel, Or.inl wd_m12_428, ok_M_X12_isTable, rfl⟩
theorem r_12_read_4 : RB M_X12_read 4 (.ifCond .eq) 35 7 := ⟨31, by decide +kernel, rfl, rfl⟩
theorem r_12_read_35 : RC M_X12_read 35 (-2000000000) 38 := ⟨⟨by decide, by decide⟩, Or.inr (Or.inr (Or.inr (Or.inr ⟨289, by decide +kernel, wd_c12_289, rfl⟩)))⟩
theorem r_12_read_38 : RW M_X12_read 38 .ireturn 39 1 := ⟨by decide +kernel, rfl⟩
theorem r_12_read_7 : RL M_X12_read 7 2 8 := Or.inl ⟨2, by decide +kernel, rfl, rfl⟩
theorem r_12_read_8 : RB M_X12_read 8 (.ifCond .lt) 35 11 := ⟨27, by decide +kernel, rfl, rfl⟩
theorem r_12_read_11 : RL M_X12_read 11 2 12 := Or.inl ⟨2, by decide +kernel, rfl, rfl⟩
theorem r_12_read_12 : RA M_X12_read 12 0 13 := Or.inl ⟨0, by decide +kernel, rfl, rfl⟩
theorem r_12_read_13 : RG M_X12_read 13 12 107 16 := ⟨234, _, by decide +kernel, rfl, by decide, wd_f12_234, rfl, rfl⟩
theorem r_12_read_16 : RL M_X12_read 16 1 17 := Or.inl ⟨1, by decide +kernel, rfl, rfl⟩
theorem r_12_read_17 : RW M_X12_read 17 .iaload 18 1 := ⟨by decide +kernel, rfl⟩
theorem r_12_read_18 : RB M_X12_read 18 (.if_icmp .ge) 35 21 := ⟨17, by decide +kernel, rfl, rfl⟩
theorem r_12_read_21 : RA M_X12_read 21 0 22 := Or.inl ⟨0, by decide +kernel, rfl, rfl⟩
theorem r_12_read_22 : RG M_X12_read 22 12 108 25 := ⟨237, _, by decide +kernel, rfl, by decide, wd_f12_237, rfl, rfl⟩
theorem r_12_read_25 : RC M_X12_read 25 60 27 := ⟨⟨by decide, by decide⟩, Or.inr (Or.inl ⟨by decide +kernel, by decide, rfl⟩)⟩
theorem r_12_read_27 : RL M_X12_read 27 1 28 := Or.inl ⟨1, by decide +kernel, rfl, rfl⟩
theorem r_12_read_28 : RW M_X12_read 28 .imul 29 1 := ⟨by decide +kernel, rfl⟩
theorem r_12_read_29 : RL M_X12_read 29 2 30 := Or.inl ⟨2, by decide +kernel, rfl, rfl⟩
theorem r_12_read_30 : RW M_X12_read 30 .iadd 31 1 := ⟨by decide +kernel, rfl⟩
theorem r_12_read_31 : RW M_X12_read 31 .iaload 32 1 := ⟨by decide +kernel, rfl⟩
theorem r_12_read_32 : RB M_X12_read 32 .goto 38 35 := ⟨6, by decide +kernel, rfl, rfl⟩
theorem r_5_setBlank_0 : RA M_X5_setBlank 0 0 1 := Or.inl ⟨0, by decide +kernel, rfl, rfl⟩
theorem r_5_setBlank_1 : RG M_X5_setBlank 1 5 12 4 := ⟨50, _, by decide +kernel, rfl, by decide, wd_f5_50, rfl, rfl⟩
theorem r_5_setBlank_4 : RS M_X5_setBlank 4 2 5 := ⟨by decide, Or.inl ⟨2, by decide +kernel, rfl, rfl⟩⟩
theorem r_5_setBlank_5 : RA M_X5_setBlank 5 0 6 := Or.inl ⟨0, by decide +kernel, rfl, rfl⟩
theorem r_5_setBlank_6 : RL M_X5_setBlank 6 1 7 := Or.inl ⟨1, by decide +kernel, rfl, rfl⟩
theorem r_5_setBlank_7 : RP M_X5_setBlank 7 5 12 10 := ⟨50, _, by decide +kernel, rfl, by decide, wd_f5_50, rfl, Or.inl rfl, rfl⟩
theorem r_5_setBlank_10 : RL M_X5_setBlank 10 2 11 := Or.inl ⟨2, by decide +kernel, rfl, rfl⟩
theorem r_5_setBlank_11 : RW M_X5_setBlank 11 .ireturn 12 1 := ⟨by decide +kernel, rfl⟩
theorem r_12_blank_0 : RA M_X12_blank 0 0 1 := Or.inl ⟨0, by decide +kernel, rfl, rfl⟩
theorem r_12_blank_1 : RG M_X12_blank 1 12 57 4 := ⟨134, _, by decide +kernel, rfl, by decide, wd_f12_134, rfl, rfl⟩
theorem r_12_blank_4 : RS M_X12_blank 4 2 5 := ⟨by decide, Or.inl ⟨2, by decide +kernel, rfl, rfl⟩⟩
theorem r_12_blank_5 : RA M_X12_blank 5 0 6 := Or.inl ⟨0, by decide +kernel, rfl, rfl⟩
theorem r_12_blank_6 : RL M_X12_blank 6 1 7 := Or.inl ⟨1, by decide +kernel, rfl, rfl⟩
theorem r_12_blank_7 : RP M_X12_blank 7 12 57 10 := ⟨134, _, by decide +kernel, rfl, by decide, wd_f12_134, rfl, Or.inl rfl, rfl⟩
theorem r_12_blank_10 : RL M_X12_blank 10 2 11 := Or.inl ⟨2, by decide +kernel, rfl, rfl⟩
theorem r_12_blank_11 : RW M_X12_blank 11 .ireturn 12 1 := ⟨by decide +kernel, rfl⟩
theorem r_5_setCanBe_0 : RL M_X5_setCanBe 0 1 1 := Or.inl ⟨1, by decide +kernel, rfl, rfl⟩
theorem r_5_setCanBe_1 : RC M_X5_setCanBe 1 1 2 := ⟨⟨by decide, by decide⟩, Or.inl ⟨by decide +kernel, rfl⟩⟩
theorem r_5_setCanBe_2 : RC M_X5_setCanBe 2 26 4 := ⟨⟨by decide, by decide⟩, Or.inr (Or.inl ⟨by decide +kernel, by decide, rfl⟩)⟩
theorem r_5_setCanBe_4 : RKs M_X5_setCanBe M_X11_within 4 3 7 := ⟨65, by decide +kernel, Or.inr (by decide +kernel), ok_M_X11_within, rfl⟩
theorem r_5_setCanBe_7 : RB M_X5_setCanBe 7 (.ifCond .eq) 29 10 := ⟨22, by decide +kernel, rfl, rfl⟩
theorem r_5_setCanBe_29 : RC M_X5_setCanBe 29 (-1) 30 := ⟨⟨by decide, by decide⟩, Or.inl ⟨by decide +kernel, rfl⟩⟩
theorem r_5_setCanBe_30 : RW M_X5_setCanBe 30 .ireturn 31 1 := ⟨by decide +kernel, rfl⟩
theorem r_5_setCanBe_10 : RL M_X5_setCanBe 10 2 11 := Or.inl ⟨2, by decide +kernel, rfl, rfl⟩
theorem r_5_setCanBe_11 : RC M_X5_setCanBe 11 1 12 := ⟨⟨by decide, by decide⟩, Or.inl ⟨by decide +kernel, rfl⟩⟩
theorem r_5_setCanBe_12 : RC M_X5_setCanBe 12 26 14 := ⟨⟨by decide, by decide⟩, Or.inr (Or.inl ⟨by decide +kernel, by decide, rfl⟩)⟩
theorem r_5_setCanBe_14 : RKs M_X5_setCanBe M_X11_within 14 3 17 := ⟨65, by decide +kernel, Or.inr (by decide +kernel), ok_M_X11_within, rfl⟩
theorem r_5_setCanBe_17 : RB M_X5_setCanBe 17 (.ifCond .eq) 29 20 := ⟨12, by decide +kernel, rfl, rfl⟩
theorem r_5_setCanBe_20 : RL M_X5_setCanBe 20 3 21 := Or.inl ⟨3, by decide +kernel, rfl, rfl⟩
theorem r_5_setCanBe_21 : RC M_X5_setCanBe 21 0 22 := ⟨⟨by decide, by decide⟩, Or.inl ⟨by decide +kernel, rfl⟩⟩
theorem r_5_setCanBe_22 : RC M_X5_setCanBe 22 1 23 := ⟨⟨by decide, by decide⟩, Or.inl ⟨by decide +kernel, rfl⟩⟩
theorem r_5_setCanBe_23 : RKs M_X5_setCanBe M_X11_within 23 3 26 := ⟨65, by decide +kernel, Or.inr (by decide +kernel), ok_M_X11_within, rfl⟩
theorem r_5_setCanBe_26 : RB M_X5_setCanBe 26 (.ifCond .ne) 31 29 := ⟨5, by decide +kernel, rfl, rfl⟩
theorem r_5_setCanBe_31 : RA M_X5_setCanBe 31 0 32 := Or.inl ⟨0, by decide +kernel, rfl, rfl⟩
theorem r_5_setCanBe_32 : RG M_X5_setCanBe 32 5 6 35 := ⟨29, _, by decide +kernel, rfl, by decide, wd_f5_29, rfl, rfl⟩
theorem r_5_setCanBe_35 : RL M_X5_setCanBe 35 1 36 := Or.inl ⟨1, by decide +kernel, rfl, rfl⟩
theorem r_5_setCanBe_36 : RC M_X5_setCanBe 36 28 38 := ⟨⟨by decide, by decide⟩, Or.inr (Or.inl ⟨by decide +kernel, by decide, rfl⟩)⟩
theorem r_5_setCanBe_38 : RW M_X5_setCanBe 38 .imul 39 1 := ⟨by decide +kernel, rfl⟩
theorem r_5_setCanBe_39 : RL M_X5_setCanBe 39 2 40 := Or.inl ⟨2, by decide +kernel, rfl, rfl⟩
theorem r_5_setCanBe_40 : RW M_X5_setCanBe 40 .iadd 41 1 := ⟨by decide +kernel, rfl⟩
theorem r_5_setCanBe_41 : RW M_X5_setCanBe 41 .baload 42 1 := ⟨by decide +kernel, rfl⟩
theorem r_5_setCanBe_42 : RB M_X5_setCanBe 42 (.ifCond .eq) 49 45 := ⟨7, by decide +kernel, rfl, rfl⟩
theorem r_5_setCanBe_49 : RC M_X5_setCanBe 49 0 50 := ⟨⟨by decide, by decide⟩, Or.inl ⟨by decide +kernel, rfl⟩⟩
theorem r_5_setCanBe_50 : RS M_X5_setCanBe 50 4 52 := ⟨by decide, Or.inr ⟨by decide +kernel, rfl⟩⟩
theorem r_5_setCanBe_52 : RA M_X5_setCanBe 52 0 53 := Or.inl ⟨0, by decide +kernel, rfl, rfl⟩
theorem r_5_setCanBe_53 : RG M_X5_setCanBe 53 5 6 56 := ⟨29, _, by decide +kernel, rfl, by decide, wd_f5_29, rfl, rfl⟩
theorem r_5_setCanBe_56 : RL M_X5_setCanBe 56 1 57 := Or.inl ⟨1, by decide +kernel, rfl, rfl⟩
theorem r_5_setCanBe_57 : RC M_X5_setCanBe 57 28 59 := ⟨⟨by decide, by decide⟩, Or.inr (Or.inl ⟨by decide +kernel, by decide, rfl⟩)⟩
theorem r_5_setCanBe_59 : RW M_X5_setCanBe 59 .imul 60 1 := ⟨by decide +kernel, rfl⟩
theorem r_5_setCanBe_60 : RL M_X5_setCanBe 60 2 61 := Or.inl ⟨2, by decide +kernel, rfl, rfl⟩
theorem r_5_setCanBe_61 : RW M_X5_setCanBe 61 .iadd 62 1 := ⟨by decide +kernel, rfl⟩
theorem r_5_setCanBe_62 : RL M_X5_setCanBe 62 3 63 := Or.inl ⟨3, by decide +kernel, rfl, rfl⟩
theorem r_5_setCanBe_63 : RC M_X5_setCanBe 63 1 64 := ⟨⟨by decide, by decide⟩, Or.inl ⟨by decide +kernel, rfl⟩⟩
theorem r_5_setCanBe_64 : RB M_X5_setCanBe 64 (.if_icmp .ne) 71 67 := ⟨7, by decide +kernel, rfl, rfl⟩
theorem r_5_setCanBe_71 : RC M_X5_setCanBe 71 0 72 := ⟨⟨by decide, by decide⟩, Or.inl ⟨by decide +kernel, rfl⟩⟩
theorem r_5_setCanBe_72 : RW M_X5_setCanBe 72 .bastore 73 1 := ⟨by decide +kernel, rfl⟩
theorem r_5_setCanBe_73 : RL M_X5_setCanBe 73 4 75 := Or.inr ⟨by decide +kernel, rfl⟩
theorem r_5_setCanBe_75 : RW M_X5_setCanBe 75 .ireturn 76 1 := ⟨by decide +kernel, rfl⟩
theorem r_5_setCanBe_67 : RC M_X5_setCanBe 67 1 68 := ⟨⟨by decide, by decide⟩, Or.inl ⟨by decide +kernel, rfl⟩⟩
theorem r_5_setCanBe_68 : RB M_X5_setCanBe 68 .goto 72 71 := ⟨4, by decide +kernel, rfl, rfl⟩
theorem r_5_setCanBe_45 : RC M_X5_setCanBe 45 1 46 := ⟨⟨by decide, by decide⟩, Or.inl ⟨by decide +kernel, rfl⟩⟩
theorem r_5_setCanBe_46 : RB M_X5_setCanBe 46 .goto 50 49 := ⟨4, by decide +kernel, rfl, rfl⟩
theorem r_12_canBe_0 : RL M_X12_canBe 0 1 1 := Or.inl ⟨1, by decide +kernel, rfl, rfl⟩
theorem r_12_canBe_1 : RC M_X12_canBe 1 1 2 := ⟨⟨by decide, by decide⟩, Or.inl ⟨by decide +kernel, rfl⟩⟩
theorem r_12_canBe_2 : RC M_X12_canBe 2 26 4 := ⟨⟨by decide, by decide⟩, Or.inr (Or.inl ⟨by decide +kernel, by decide, rfl⟩)⟩
theorem r_12_canBe_4 : RKs M_X12_canBe M_X12_within 4 3 7 := ⟨240, by decide +kernel, Or.inl wd_m12_240, ok_M_X12_within, rfl⟩
theorem r_12_canBe_7 : RB M_X12_canBe 7 (.ifCond .eq) 29 10 := ⟨22, by decide +kernel, rfl, rfl⟩
theorem r_12_canBe_29 : RC M_X12_canBe 29 (-1) 30 := ⟨⟨by decide, by decide⟩, Or.inl ⟨by decide +kernel, rfl⟩⟩
theorem r_12_canBe_30 : RW M_X12_canBe 30 .ireturn 31 1 := ⟨by decide +kernel, rfl⟩
theorem r_12_canBe_10 : RL M_X12_canBe 10 2 11 := Or.inl ⟨2, by decide +kernel, rfl, rfl⟩
theorem r_12_canBe_11 : RC M_X12_canBe 11 1 12 := ⟨⟨by decide, by decide⟩, Or.inl ⟨by decide +kernel, rfl⟩⟩
theorem r_12_canBe_12 : RC M_X12_canBe 12 26 14 := ⟨⟨by decide, by decide⟩, Or.inr (Or.inl ⟨by decide +kernel, by decide, rfl⟩)⟩
theorem r_12_canBe_14 : RKs M_X12_canBe M_X12_within 14 3 17 := ⟨240, by decide +kernel, Or.inl wd_m12_240, ok_M_X12_within, rfl⟩
theorem r_12_canBe_17 : RB M_X12_canBe 17 (.ifCond .eq) 29 20 := ⟨12, by decide +kernel, rfl, rfl⟩
theorem r_12_canBe_20 : RL M_X12_canBe 20 3 21 := Or.inl ⟨3, by decide +kernel, rfl, rfl⟩
theorem r_12_canBe_21 : RC M_X12_canBe 21 0 22 := ⟨⟨by decide, by decide⟩, Or.inl ⟨by decide +kernel, rfl⟩⟩
theorem r_12_canBe_22 : RC M_X12_canBe 22 1 23 := ⟨⟨by decide, by decide⟩, Or.inl ⟨by decide +kernel, rfl⟩⟩
theorem r_12_canBe_23 : RKs M_X12_canBe M_X12_within 23 3 26 := ⟨240, by decide +kernel, Or.inl wd_m12_240, ok_M_X12_within, rfl⟩
theorem r_12_canBe_26 : RB M_X12_canBe 26 (.ifCond .ne) 31 29 := ⟨5, by decide +kernel, rfl, rfl⟩
theorem r_12_canBe_31 : RA M_X12_canBe 31 0 32 := Or.inl ⟨0, by decide +kernel, rfl, rfl⟩
theorem r_12_canBe_32 : RG M_X12_canBe 32 12 56 35 := ⟨130, _, by decide +kernel, rfl, by decide, wd_f12_130, rfl, rfl⟩
theorem r_12_canBe_35 : RC M_X12_canBe 35 27 37 := ⟨⟨by decide, by decide⟩, Or.inr (Or.inl ⟨by decide +kernel, by decide, rfl⟩)⟩
theorem r_12_canBe_37 : RL M_X12_canBe 37 1 38 := Or.inl ⟨1, by decide +kernel, rfl, rfl⟩
theorem r_12_canBe_38 : RW M_X12_canBe 38 .imul 39 1 := ⟨by decide +kernel, rfl⟩
theorem r_12_canBe_39 : RL M_X12_canBe 39 2 40 := Or.inl ⟨2, by decide +kernel, rfl, rfl⟩
theorem r_12_canBe_40 : RW M_X12_canBe 40 .iadd 41 1 := ⟨by decide +kernel, rfl⟩
theorem r_12_canBe_41 : RW M_X12_canBe 41 .baload 42 1 := ⟨by decide +kernel, rfl⟩
theorem r_12_canBe_42 : RS M_X12_canBe 42 4 44 := ⟨by decide, Or.inr ⟨by decide +kernel, rfl⟩⟩
theorem r_12_canBe_44 : RA M_X12_canBe 44 0 45 := Or.inl ⟨0, by decide +kernel, rfl, rfl⟩
theorem r_12_canBe_45 : RG M_X12_canBe 45 12 56 48 := ⟨130, _, by decide +kernel, rfl, by decide, wd_f12_130, rfl, rfl⟩
theorem r_12_canBe_48 : RC M_X12_canBe 48 27 50 := ⟨⟨by decide, by decide⟩, Or.inr (Or.inl ⟨by decide +kernel, by decide, rfl⟩)⟩
theorem r_12_canBe_50 : RL M_X12_canBe 50 1 51 := Or.inl ⟨1, by decide +kernel, rfl, rfl⟩
theorem r_12_canBe_51 : RW M_X12_canBe 51 .imul 52 1 := ⟨by decide +kernel, rfl⟩
theorem r_12_canBe_52 : RL M_X12_canBe 52 2 53 := Or.inl ⟨2, by decide +kernel, rfl, rfl⟩
theorem r_12_canBe_53 : RW M_X12_canBe 53 .iadd 54 1 := ⟨by decide +kernel, rfl⟩
theorem r_12_canBe_54 : RL M_X12_canBe 54 3 55 := Or.inl ⟨3, by decide +kernel, rfl, rfl⟩
theorem r_12_canBe_55 : RC M_X12_canBe 55 1 56 := ⟨⟨by decide, by decide⟩, Or.inl ⟨by decide +kernel, rfl⟩⟩
theorem r_12_canBe_56 : RB M_X12_canBe 56 (.if_icmp .ne) 63 59 := ⟨7, by decide +kernel, rfl, rfl⟩
theorem r_12_canBe_63 : RC M_X12_canBe 63 0 64 := ⟨⟨by decide, by decide⟩, Or.inl ⟨by decide +kernel, rfl⟩⟩
theorem r_12_canBe_64 : RW M_X12_canBe 64 .bastore 65 1 := ⟨by decide +kernel, rfl⟩
theorem r_12_canBe_65 : RL M_X12_canBe 65 4 67 := Or.inr ⟨by decide +kernel, rfl⟩
theorem r_12_canBe_67 : RB M_X12_canBe 67 (.ifCond .eq) 74 70 := ⟨7, by decide +kernel, rfl, rfl⟩
theorem r_12_canBe_74 : RC M_X12_canBe 74 0 75 := ⟨⟨by decide, by decide⟩, Or.inl ⟨by decide +kernel, rfl⟩⟩
theorem r_12_canBe_75 : RW M_X12_canBe 75 .ireturn 76 1 := ⟨by decide +kernel, rfl⟩
theorem r_12_canBe_70 : RC M_X12_canBe 70 1 71 := ⟨⟨by decide, by decide⟩, Or.inl ⟨by decide +kernel, rfl⟩⟩
theorem r_12_canBe_71 : RB M_X12_canBe 71 .goto 75 74 := ⟨4, by decide +kernel, rfl, rfl⟩
theorem r_12_canBe_59 : RC M_X12_canBe 59 1 60 := ⟨⟨by decide, by decide⟩, Or.inl ⟨by decide +kernel, rfl⟩⟩
theorem r_12_canBe_60 : RB M_X12_canBe 60 .goto 64 63 := ⟨4, by decide +kernel, rfl, rfl⟩
theorem r_11_table_0 : RA M_X11_table 0 0 1 := Or.inl ⟨0, by decide +kernel, rfl, rfl⟩
theorem r_11_table_1 : RG M_X11_table 1 11 4 4 := ⟨46, _, by decide +kernel, rfl, by decide, wd_f11_46, rfl, rfl⟩
theorem r_11_table_4 : RL M_X11_table 4 1 5 := Or.inl ⟨1, by decide +kernel, rfl, rfl⟩
theorem r_11_table_5 : RL M_X11_table 5 2 6 := Or.inl ⟨2, by decide +kernel, rfl, rfl⟩
theorem r_11_table_6 : RL M_X11_table 6 3 7 := Or.inl ⟨3, by decide +kernel, rfl, rfl⟩
theorem r_11_table_7 : RKv M_X11_table M_X5_setTable 7 3 5 10 := ⟨240, by decide +kernel, wd_m11_240, ok_M_X5_setTable, wd_s5_setTable, rfl⟩
theorem r_11_table_10 : RW M_X11_table 10 .ireturn 11 1 := ⟨by decide +kernel, rfl⟩
theorem r_11_item_0 : RA M_X11_item 0 0 1 := Or.inl ⟨0, by decide +kernel, rfl, rfl⟩
theorem r_11_item_1 : RG M_X11_item 1 11 4 4 := ⟨46, _, by decide +kernel, rfl, by decide, wd_f11_46, rfl, rfl⟩
theorem r_11_item_4 : RL M_X11_item 4 1 5 := Or.inl ⟨1, by decide +kernel, rfl, rfl⟩
theorem r_11_item_5 : RL M_X11_item 5 2 6 := Or.inl ⟨2, by decide +kernel, rfl, rfl⟩
theorem r_11_item_6 : RL M_X11_item 6 3 7 := Or.inl ⟨3, by decide +kernel, rfl, rfl⟩
theorem r_11_item_7 : RKv M_X11_item M_X5_setItem 7 3 5 10 := ⟨243, by decide +kernel, wd_m11_243, ok_M_X5_setItem, wd_s5_setItem, rfl⟩
theorem r_11_item_10 : RW M_X11_item 10 .ireturn 11 1 := ⟨by decide +kernel, rfl⟩
theorem r_11_read_0 : RA M_X11_read 0 0 1 := Or.inl ⟨0, by decide +kernel, rfl, rfl⟩
theorem r_11_read_1 : RG M_X11_read 1 11 4 4 := ⟨46, _, by decide +kernel, rfl, by decide, wd_f11_46, rfl, rfl⟩
theorem r_11_read_4 : RL M_X11_read 4 1 5 := Or.inl ⟨1, by decide +kernel, rfl, rfl⟩
theorem r_11_read_5 : RL M_X11_read 5 2 6 := Or.inl ⟨2, by decide +kernel, rfl, rfl⟩
theorem r_11_read_6 : RKv M_X11_read M_X5_tellItem 6 2 5 9 := ⟨246, by decide +kernel, wd_m11_246, ok_M_X5_tellItem, wd_s5_tellItem, rfl⟩
theorem r_11_read_9 : RW M_X11_read 9 .ireturn 10 1 := ⟨by decide +kernel, rfl⟩
theorem r_11_blank_0 : RA M_X11_blank 0 0 1 := Or.inl ⟨0, by decide +kernel, rfl, rfl⟩
theorem r_11_blank_1 : RG M_X11_blank 1 11 4 4 := ⟨46, _, by decide +kernel, rfl, by decide, wd_f11_46, rfl, rfl⟩
theorem r_11_blank_4 : RL M_X11_blank 4 1 5 := Or.inl ⟨1, by decide +kernel, rfl, rfl⟩
theorem r_11_blank_5 : RKv M_X11_blank M_X5_setBlank 5 1 5 8 := ⟨249, by decide +kernel, wd_m11_249, ok_M_X5_setBlank, wd_s5_setBlank, rfl⟩
theorem r_11_blank_8 : RW M_X11_blank 8 .ireturn 9 1 := ⟨by decide +kernel, rfl⟩
theorem r_11_canBe_0 : RA M_X11_canBe 0 0 1 := Or.inl ⟨0, by decide +kernel, rfl, rfl⟩
theorem r_11_canBe_1 : RG M_X11_canBe 1 11 4 4 := ⟨46, _, by decide +kernel, rfl, by decide, wd_f11_46, rfl, rfl⟩
theorem r_11_canBe_4 : RL M_X11_canBe 4 1 5 := Or.inl ⟨1, by decide +kernel, rfl, rfl⟩
theorem r_11_canBe_5 : RL M_X11_canBe 5 2 6 := Or.inl ⟨2, by decide +kernel, rfl, rfl⟩
theorem r_11_canBe_6 : RL M_X11_canBe 6 3 7 := Or.inl ⟨3, by decide +kernel, rfl, rfl⟩
theorem r_11_canBe_7 : RKv M_X11_canBe M_X5_setCanBe 7 3 5 10 := ⟨163, by decide +kernel, wd_m11_163, ok_M_X5_setCanBe, wd_s5_setCanBe, rfl⟩
theorem r_11_canBe_10 : RW M_X11_canBe 10 .ireturn 11 1 := ⟨by decide +kernel, rfl⟩
set_option maxRecDepth 10000 in
theorem sp_X8_addBytes {l : Launch} {w : Wo} {d : Nat} {G : PH} {P : Option PV → PH → Prop} {n v : Int} (htp : 0 ≤ (gF G 8 0 1) ∧ (gF G 8 0 1) ≤ 160) (h1 : ¬ (1 ≤ n ∧ n ≤ 4) → P (some (vI (-1))) G) (h2 : (1 ≤ n ∧ n ≤ 4) → (160 < (gF G 8 0 1) + n) → P (some (vI (-2))) G) (h3 : (1 ≤ n ∧ n ≤ 4) → ((gF G 8 0 1) + n ≤ 160) → P (some (vI ((gF G 8 0 1) + n))) (sF (uA G 76 0 (filF (fun j0 => (gF G 8 0 1) ≤ j0) (fun j0 => b8 (pShr v (8 * (j0 - (gF G 8 0 1))))) (gA G 76 0) ((gF G 8 0 1) + n))) 8 0 1 ((gF G 8 0 1) + n))) : PW l w M_X8_addBytes (d + 1) 0 [some (vR 8 (0)), some (vI (n)), some (vI (v)), none] [] G P := by
  refine pw_iload r_8_addBytes_0 rfl ?_
  refine pw_const r_8_addBytes_1 ?_
  refine pw_const r_8_addBytes_2 ?_
  refine pw_callS (av := [vI (n), vI (1), vI (4)]) (st := []) (ls0 := [some (vI (n)), some (vI (1)), some (vI (4))]) r_8_addBytes_3 rfl rfl rfl (Nat.le_refl _) ?_
  refine sp_X11_within  ?_
  refine pw_if_neB r_8_addBytes_6 (fun h06 => ?_) (fun h06 => ?_)
  · skip
    refine pw_aload r_8_addBytes_11 rfl ?_
    refine pw_getI r_8_addBytes_12 fs_8_1 (by decide) ?_
    refine pw_const r_8_addBytes_15 ?_
    refine pw_iload r_8_addBytes_18 rfl ?_
    refine pw_isub r_8_addBytes_19 (by omega) ?_
    refine pw_icmp_le r_8_addBytes_20 (fun h20 => ?_) (fun h20 => ?_)
    · skip
      refine pw_const r_8_addBytes_26 ?_
      refine pw_istore (ls' := [some (vR 8 (0)), some (vI (n)), some (vI (v)), some (vI (0))]) r_8_addBytes_27 rfl rfl ?_
      have L28 : ∀ (nF : Nat) (i : Int), (hi : 0 ≤ i ∧ i ≤ n) → (n - i).toNat < nF → PW l w M_X8_addBytes (d + 1) 28 [some (vR 8 (0)), some (vI (n)), some (vI (v)), some (vI (i))] [] (sF (uA G 76 (0) (filF (fun j0 => (gF G 8 0 1) ≤ j0) (fun j0 => b8 (pShr v (8 * (j0 - (gF G 8 0 1))))) (gA G 76 0) ((gF G 8 0 1) + i))) 8 (0) 1 ((gF G 8 0 1) + i)) P := by
        intro nF
        induction nF with
        | zero => intro _ _ hM; exact absurd hM (Nat.not_lt_zero _)
        | succ nF ih28 =>
          intro i hi hM28
          refine pw_iload r_8_addBytes_28 rfl ?_
          refine pw_iload r_8_addBytes_29 rfl ?_
          refine pw_icmp_ge r_8_addBytes_30 (fun h30 => ?_) (fun h30 => ?_)
          · skip
            have ei : i = n := by omega
            subst ei
            refine pw_aload r_8_addBytes_65 rfl ?_
            refine pw_getIv (v := (gF G 8 0 1) + i) r_8_addBytes_66 fs_8_1 (by decide) (by first | rfl | simp [gF_sF, gF_sA, gF_uA, gF_sD, gA_sF, gA_sA, gA_uA, gA_sD, gD_sF, gD_sA, gD_uA, gD_sD]) ?_
            refine pw_iret r_8_addBytes_69 rfl (Nat.le_refl _) ⟨rfl, ?_⟩
            first | exact h1 (by omega) | exact h2 (by omega) (by omega) | exact h3 (by omega) (by omega)
          · skip
            refine pw_aload r_8_addBytes_33 rfl ?_
            refine pw_getR r_8_addBytes_34 fs_8_5 (by decide) ?_
            refine pw_aload r_8_addBytes_37 rfl ?_
            refine pw_getIv (v := (gF G 8 0 1) + i) r_8_addBytes_38 fs_8_1 (by decide) (by first | rfl | simp [gF_sF, gF_sA, gF_uA, gF_sD, gA_sF, gA_sA, gA_uA, gA_sD, gD_sF, gD_sA, gD_uA, gD_sD]) ?_
            refine pw_iload r_8_addBytes_41 rfl ?_
            refine pw_const r_8_addBytes_42 ?_
            refine pw_iload r_8_addBytes_44 rfl ?_
            refine pw_imul r_8_addBytes_45 (by omega) ?_
            refine pw_ishr r_8_addBytes_46 ?_
            refine pw_i2b r_8_addBytes_47 ?_
            refine pw_bast r_8_addBytes_48 sh76 (by omega) (by omega) ?_
            refine pw_aload r_8_addBytes_49 rfl ?_
            refine pw_dup r_8_addBytes_50 rfl ?_
            refine pw_getIv (v := (gF G 8 0 1) + i) r_8_addBytes_51 fs_8_1 (by decide) (by first | rfl | simp [gF_sF, gF_sA, gF_uA, gF_sD, gA_sF, gA_sA, gA_uA, gA_sD, gD_sF, gD_sA, gD_uA, gD_sD]) ?_
            refine pw_const r_8_addBytes_54 ?_
            refine pw_iadd r_8_addBytes_55 (by omega) ?_
            refine pw_putI r_8_addBytes_56 (by decide +kernel) fs_8_1 (by decide) ?_
            refine pw_iinc (b := 0) (ls' := [some (vR 8 (0)), some (vI (n)), some (vI (v)), some (vI ((i + 1)))]) r_8_addBytes_59 rfl rfl (by omega) rfl ?_
            refine pw_goto r_8_addBytes_62 ?_
            refine pw_eqG (G' := sF (uA G 76 (0) (filF (fun j0 => (gF G 8 0 1) ≤ j0) (fun j0 => b8 (pShr v (8 * (j0 - (gF G 8 0 1))))) (gA G 76 0) ((gF G 8 0 1) + (i + 1)))) 8 (0) 1 ((gF G 8 0 1) + (i + 1))) (by rw [sA_sF, sF_sF, sA_uA, fil_s (q := fun j0 => (gF G 8 0 1) ≤ j0) (v := fun j0 => b8 (pShr v (8 * (j0 - (gF G 8 0 1))))) (n := (gF G 8 0 1) + i) (by omega) (show (gF G 8 0 1) ≤ (gF G 8 0 1) + i by omega) (by show _ = b8 (pShr v (8 * (((gF G 8 0 1) + i) - (gF G 8 0 1)))); rw [show (gF G 8 0 1) + i - (gF G 8 0 1) = i by omega]; first | done | rfl | exact b8_b8 _), show (gF G 8 0 1) + (i + 1) = (gF G 8 0 1) + i + 1 by omega]) ?_
            exact ih28 ((i + 1)) (by omega) (by omega)
      refine pw_eqG (G' := sF (uA G 76 (0) (filF (fun j0 => (gF G 8 0 1) ≤ j0) (fun j0 => b8 (pShr v (8 * (j0 - (gF G 8 0 1))))) (gA G 76 0) ((gF G 8 0 1) + 0))) 8 (0) 1 ((gF G 8 0 1) + 0)) (by rw [show (gF G 8 0 1) + 0 = (gF G 8 0 1) by omega, fil_none (q := fun j0 => (gF G 8 0 1) ≤ j0) (fun i a b => by omega), uA_self, sF_self]) ?_
      exact L28 _ (0) (by omega) (Nat.lt_succ_self _)
    · skip
      refine pw_const r_8_addBytes_23 ?_
      refine pw_iret r_8_addBytes_25 rfl (Nat.le_refl _) ⟨rfl, ?_⟩
      first | exact h1 (by omega) | exact h2 (by omega) (by omega) | exact h3 (by omega) (by omega)
  · skip
    refine pw_const r_8_addBytes_9 ?_
    refine pw_iret r_8_addBytes_10 rfl (Nat.le_refl _) ⟨rfl, ?_⟩
    first | exact h1 (by omega) | exact h2 (by omega) (by omega) | exact h3 (by omega) (by omega)
set_option maxRecDepth 10000 in
theorem sp_X12_feed {l : Launch} {w : Wo} {d : Nat} {G : PH} {P : Option PV → PH → Prop} {n v : Int} (htp : 0 ≤ (gF G 12 0 36) ∧ (gF G 12 0 36) ≤ 160) (h1 : ¬ (1 ≤ n ∧ n ≤ 4) → P (some (vI (-1))) G) (h2 : (1 ≤ n ∧ n ≤ 4) → (160 < (gF G 12 0 36) + n) → P (some (vI (-2))) G) (h3 : (1 ≤ n ∧ n ≤ 4) → ((gF G 12 0 36) + n ≤ 160) → P (some (vI ((gF G 12 0 36) + n))) (sF (uA G 228 0 (filF (fun j0 => (gF G 12 0 36) ≤ j0) (fun j0 => pAnd (pShr v (8 * (j0 - (gF G 12 0 36)))) 255) (gA G 228 0) ((gF G 12 0 36) + n))) 12 0 36 ((gF G 12 0 36) + n))) : PW l w M_X12_feed (d + 1) 0 [some (vR 12 (0)), some (vI (n)), some (vI (v)), none] [] G P := by
  refine pw_iload r_12_feed_0 rfl ?_
  refine pw_const r_12_feed_1 ?_
  refine pw_const r_12_feed_2 ?_
  refine pw_callS (av := [vI (n), vI (1), vI (4)]) (st := []) (ls0 := [some (vI (n)), some (vI (1)), some (vI (4))]) r_12_feed_3 rfl rfl rfl (Nat.le_refl _) ?_
  refine sp_X12_within  ?_
  refine pw_if_neB r_12_feed_6 (fun h06 => ?_) (fun h06 => ?_)
  · skip
    refine pw_aload r_12_feed_11 rfl ?_
    refine pw_getI r_12_feed_12 fs_12_36 (by decide) ?_
    refine pw_iload r_12_feed_15 rfl ?_
    refine pw_iadd r_12_feed_16 (by omega) ?_
    refine pw_const r_12_feed_17 ?_
    refine pw_icmp_le r_12_feed_20 (fun h20 => ?_) (fun h20 => ?_)
    · skip
      refine pw_const r_12_feed_26 ?_
      refine pw_istore (ls' := [some (vR 12 (0)), some (vI (n)), some (vI (v)), some (vI (0))]) r_12_feed_27 rfl rfl ?_
      have L28 : ∀ (nF : Nat) (i : Int), (hi : 0 ≤ i ∧ i ≤ n) → (n - i).toNat < nF → PW l w M_X12_feed (d + 1) 28 [some (vR 12 (0)), some (vI (n)), some (vI (v)), some (vI (i))] [] (sF (uA G 228 (0) (filF (fun j0 => (gF G 12 0 36) ≤ j0) (fun j0 => pAnd (pShr v (8 * (j0 - (gF G 12 0 36)))) 255) (gA G 228 0) ((gF G 12 0 36) + i))) 12 (0) 36 ((gF G 12 0 36) + i)) P := by
        intro nF
        induction nF with
        | zero => intro _ _ hM; exact absurd hM (Nat.not_lt_zero _)
        | succ nF ih28 =>
          intro i hi hM28
          refine pw_iload r_12_feed_28 rfl ?_
          refine pw_iload r_12_feed_29 rfl ?_
          refine pw_icmp_ge r_12_feed_30 (fun h30 => ?_) (fun h30 => ?_)
          · skip
            have ei : i = n := by omega
            subst ei
            refine pw_aload r_12_feed_68 rfl ?_
            refine pw_getIv (v := (gF G 12 0 36) + i) r_12_feed_69 fs_12_36 (by decide) (by first | rfl | simp [gF_sF, gF_sA, gF_uA, gF_sD, gA_sF, gA_sA, gA_uA, gA_sD, gD_sF, gD_sA, gD_uA, gD_sD]) ?_
            refine pw_iret r_12_feed_72 rfl (Nat.le_refl _) ⟨rfl, ?_⟩
            first | exact h1 (by omega) | exact h2 (by omega) (by omega) | exact h3 (by omega) (by omega)
          · skip
            refine pw_aload r_12_feed_33 rfl ?_
            refine pw_getR r_12_feed_34 fs_12_35 (by decide) ?_
            refine pw_aload r_12_feed_37 rfl ?_
            refine pw_getIv (v := (gF G 12 0 36) + i) r_12_feed_38 fs_12_36 (by decide) (by first | rfl | simp [gF_sF, gF_sA, gF_uA, gF_sD, gA_sF, gA_sA, gA_uA, gA_sD, gD_sF, gD_sA, gD_uA, gD_sD]) ?_
            refine pw_iload r_12_feed_41 rfl ?_
            refine pw_const r_12_feed_42 ?_
            refine pw_iload r_12_feed_44 rfl ?_
            refine pw_imul r_12_feed_45 (by omega) ?_
            refine pw_ishr r_12_feed_46 ?_
            refine pw_const r_12_feed_47 ?_
            refine pw_iand r_12_feed_50 ?_
            refine pw_iast r_12_feed_51 sh228 (by omega) (by omega) ?_
            refine pw_aload r_12_feed_52 rfl ?_
            refine pw_dup r_12_feed_53 rfl ?_
            refine pw_getIv (v := (gF G 12 0 36) + i) r_12_feed_54 fs_12_36 (by decide) (by first | rfl | simp [gF_sF, gF_sA, gF_uA, gF_sD, gA_sF, gA_sA, gA_uA, gA_sD, gD_sF, gD_sA, gD_uA, gD_sD]) ?_
            refine pw_const r_12_feed_57 ?_
            refine pw_iadd r_12_feed_58 (by omega) ?_
            refine pw_putI r_12_feed_59 (by decide +kernel) fs_12_36 (by decide) ?_
            refine pw_iinc (b := 0) (ls' := [some (vR 12 (0)), some (vI (n)), some (vI (v)), some (vI ((i + 1)))]) r_12_feed_62 rfl rfl (by omega) rfl ?_
            refine pw_goto r_12_feed_65 ?_
            refine pw_eqG (G' := sF (uA G 228 (0) (filF (fun j0 => (gF G 12 0 36) ≤ j0) (fun j0 => pAnd (pShr v (8 * (j0 - (gF G 12 0 36)))) 255) (gA G 228 0) ((gF G 12 0 36) + (i + 1)))) 12 (0) 36 ((gF G 12 0 36) + (i + 1))) (by rw [sA_sF, sF_sF, sA_uA, fil_s (q := fun j0 => (gF G 12 0 36) ≤ j0) (v := fun j0 => pAnd (pShr v (8 * (j0 - (gF G 12 0 36)))) 255) (n := (gF G 12 0 36) + i) (by omega) (show (gF G 12 0 36) ≤ (gF G 12 0 36) + i by omega) (by show _ = pAnd (pShr v (8 * (((gF G 12 0 36) + i) - (gF G 12 0 36)))) 255; rw [show (gF G 12 0 36) + i - (gF G 12 0 36) = i by omega]; first | done | rfl | exact b8_b8 _), show (gF G 12 0 36) + (i + 1) = (gF G 12 0 36) + i + 1 by omega]) ?_
            exact ih28 ((i + 1)) (by omega) (by omega)
      refine pw_eqG (G' := sF (uA G 228 (0) (filF (fun j0 => (gF G 12 0 36) ≤ j0) (fun j0 => pAnd (pShr v (8 * (j0 - (gF G 12 0 36)))) 255) (gA G 228 0) ((gF G 12 0 36) + 0))) 12 (0) 36 ((gF G 12 0 36) + 0)) (by rw [show (gF G 12 0 36) + 0 = (gF G 12 0 36) by omega, fil_none (q := fun j0 => (gF G 12 0 36) ≤ j0) (fun i a b => by omega), uA_self, sF_self]) ?_
      exact L28 _ (0) (by omega) (Nat.lt_succ_self _)
    · skip
      refine pw_const r_12_feed_23 ?_
      refine pw_iret r_12_feed_25 rfl (Nat.le_refl _) ⟨rfl, ?_⟩
      first | exact h1 (by omega) | exact h2 (by omega) (by omega) | exact h3 (by omega) (by omega)
  · skip
    refine pw_const r_12_feed_9 ?_
    refine pw_iret r_12_feed_10 rfl (Nat.le_refl _) ⟨rfl, ?_⟩
    first | exact h1 (by omega) | exact h2 (by omega) (by omega) | exact h3 (by omega) (by omega)
set_option maxRecDepth 10000 in
theorem sp_X8_isPurpose {l : Launch} {w : Wo} {d : Nat} {G : PH} {P : Option PV → PH → Prop} {u : Int} (hP : P (some (vI (b2i ((0 ≤ u ∧ u ≤ 39) ∧ u % 10 ≤ 2)))) G) : PW l w M_X8_isPurpose (d + 1) 0 [some (vI (u))] [] G P := by
  refine pw_iload r_8_isPurpose_0 rfl ?_
  refine pw_const r_8_isPurpose_1 ?_
  refine pw_const r_8_isPurpose_2 ?_
  refine pw_callS (av := [vI (u), vI (0), vI (39)]) (st := []) (ls0 := [some (vI (u)), some (vI (0)), some (vI (39))]) r_8_isPurpose_4 rfl rfl rfl (Nat.le_refl _) ?_
  refine sp_X11_within  ?_
  refine pw_if_eqB r_8_isPurpose_7 (fun h07 => ?_) (fun h07 => ?_)
  · skip
    refine pw_const r_8_isPurpose_22 ?_
    refine pw_zret r_8_isPurpose_23 rfl (Or.inl rfl) (Nat.le_refl _) ⟨rfl, ?_⟩
    exact pe hP (by first | rfl | omega | exact (b2i_t (by omega)).symm | exact (b2i_f (by omega)).symm)
  · skip
    refine pw_iload r_8_isPurpose_10 rfl ?_
    refine pw_const r_8_isPurpose_11 ?_
    refine pw_iremN r_8_isPurpose_13 (by omega) (by omega) ?_
    refine pw_const r_8_isPurpose_14 ?_
    refine pw_icmp_gt r_8_isPurpose_15 (fun h15 => ?_) (fun h15 => ?_)
    · skip
      refine pw_const r_8_isPurpose_22 ?_
      refine pw_zret r_8_isPurpose_23 rfl (Or.inl rfl) (Nat.le_refl _) ⟨rfl, ?_⟩
      exact pe hP (by first | rfl | omega | exact (b2i_t (by omega)).symm | exact (b2i_f (by omega)).symm)
    · skip
      refine pw_const r_8_isPurpose_18 ?_
      refine pw_goto r_8_isPurpose_19 ?_
      refine pw_zret r_8_isPurpose_23 rfl (Or.inr rfl) (Nat.le_refl _) ⟨rfl, ?_⟩
      exact pe hP (by first | rfl | omega | exact (b2i_t (by omega)).symm | exact (b2i_f (by omega)).symm)
set_option maxRecDepth 10000 in
theorem sp_X12_isWhat {l : Launch} {w : Wo} {d : Nat} {G : PH} {P : Option PV → PH → Prop} {u : Int} (hP : P (some (vI (b2i ((0 ≤ u ∧ u ≤ 39) ∧ u % 10 ≤ 2)))) G) : PW l w M_X12_isWhat (d + 0) 0 [some (vI (u))] [] G P := by
  refine pw_rng (i := 0) rfl (fun hj => ?_)
  have hj : -2147483648 ≤ u ∧ u < 2147483648 := hj
  refine pw_iload r_12_isWhat_0 rfl ?_
  refine pw_if_lt r_12_isWhat_1 (fun h01 => ?_) (fun h01 => ?_)
  · skip
    refine pw_const r_12_isWhat_24 ?_
    refine pw_zret r_12_isWhat_25 rfl (Or.inl rfl) (Nat.le_refl _) ⟨rfl, ?_⟩
    exact pe hP (by first | rfl | omega | exact (b2i_t (by omega)).symm | exact (b2i_f (by omega)).symm)
  · skip
    refine pw_iload r_12_isWhat_4 rfl ?_
    refine pw_const r_12_isWhat_5 ?_
    refine pw_idivN r_12_isWhat_7 (by omega) (by omega) (by omega) ?_
    refine pw_const r_12_isWhat_8 ?_
    refine pw_icmp_gt r_12_isWhat_9 (fun h09 => ?_) (fun h09 => ?_)
    · skip
      refine pw_const r_12_isWhat_24 ?_
      refine pw_zret r_12_isWhat_25 rfl (Or.inl rfl) (Nat.le_refl _) ⟨rfl, ?_⟩
      exact pe hP (by first | rfl | omega | exact (b2i_t (by omega)).symm | exact (b2i_f (by omega)).symm)
    · skip
      refine pw_iload r_12_isWhat_12 rfl ?_
      refine pw_const r_12_isWhat_13 ?_
      refine pw_iremN r_12_isWhat_15 (by omega) (by omega) ?_
      refine pw_const r_12_isWhat_16 ?_
      refine pw_icmp_gt r_12_isWhat_17 (fun h17 => ?_) (fun h17 => ?_)
      · skip
        refine pw_const r_12_isWhat_24 ?_
        refine pw_zret r_12_isWhat_25 rfl (Or.inl rfl) (Nat.le_refl _) ⟨rfl, ?_⟩
        exact pe hP (by first | rfl | omega | exact (b2i_t (by omega)).symm | exact (b2i_f (by omega)).symm)
      · skip
        refine pw_const r_12_isWhat_20 ?_
        refine pw_goto r_12_isWhat_21 ?_
        refine pw_zret r_12_isWhat_25 rfl (Or.inr rfl) (Nat.le_refl _) ⟨rfl, ?_⟩
        exact pe hP (by first | rfl | omega | exact (b2i_t (by omega)).symm | exact (b2i_f (by omega)).symm)
set_option maxRecDepth 10000 in
theorem sp_X8_findInForce {l : Launch} {w : Wo} {d : Nat} {G : PH} {P : Option PV → PH → Prop} {u t k : Int} (htx : 0 ≤ (gF G 8 0 0) ∧ (gF G 8 0 0) ≤ 20) (hP : P (some (vI (lastOf (fun i => ((gA G 80 0 (i)) = u ∧ (gA G 81 0 (i)) ≤ k ∧ (gA G 82 0 (i)) ≤ t)) (fun i => i) (-1) (gF G 8 0 0)))) G) : PW l w M_X8_findInForce (d + 0) 0 [some (vR 8 (0)), some (vI (u)), some (vI (t)), some (vI (k)), none] [] G P := by
  refine pw_aload r_8_findInForce_0 rfl ?_
  refine pw_getI r_8_findInForce_1 fs_8_0 (by decide) ?_
  refine pw_const r_8_findInForce_4 ?_
  refine pw_isub r_8_findInForce_5 (by omega) ?_
  refine pw_istore (ls' := [some (vR 8 (0)), some (vI (u)), some (vI (t)), some (vI (k)), some (vI (((gF G 8 (0) 0) - 1)))]) r_8_findInForce_6 rfl rfl ?_
  have L8 : ∀ (nF : Nat) (i : Int), (hi : -1 ≤ i ∧ i < (gF G 8 0 0)) → (hl : lastOf (fun i => ((gA G 80 0 (i)) = u ∧ (gA G 81 0 (i)) ≤ k ∧ (gA G 82 0 (i)) ≤ t)) (fun i => i) (-1) (gF G 8 0 0) = lastOf (fun i => ((gA G 80 0 (i)) = u ∧ (gA G 81 0 (i)) ≤ k ∧ (gA G 82 0 (i)) ≤ t)) (fun i => i) (-1) (i + 1)) → (i + 1).toNat < nF → PW l w M_X8_findInForce (d + 0) 8 [some (vR 8 (0)), some (vI (u)), some (vI (t)), some (vI (k)), some (vI (i))] [] G P := by
    intro nF
    induction nF with
    | zero => intro _ _ _ hM; exact absurd hM (Nat.not_lt_zero _)
    | succ nF ih8 =>
      intro i hi hl hM8
      refine pw_iload r_8_findInForce_8 rfl ?_
      refine pw_if_lt r_8_findInForce_10 (fun h10 => ?_) (fun h10 => ?_)
      · skip
        refine pw_const r_8_findInForce_55 ?_
        refine pw_iret r_8_findInForce_56 rfl (Nat.le_refl _) ⟨rfl, ?_⟩
        rw [hl, show i + 1 = 0 by omega, last_0] at hP
        exact hP
      · skip
        refine pw_aload r_8_findInForce_13 rfl ?_
        refine pw_getR r_8_findInForce_14 fs_8_8 (by decide) ?_
        refine pw_iload r_8_findInForce_17 rfl ?_
        refine pw_iald r_8_findInForce_19 sh80 (by omega) (by omega) ?_
        refine pw_iload r_8_findInForce_20 rfl ?_
        refine pw_icmp_ne r_8_findInForce_21 (fun h21 => ?_) (fun h21 => ?_)
        · skip
          refine pw_iinc (b := 0) (ls' := [some (vR 8 (0)), some (vI (u)), some (vI (t)), some (vI (k)), some (vI ((i + (-1))))]) r_8_findInForce_49 rfl rfl (by omega) rfl ?_
          refine pw_goto r_8_findInForce_52 ?_
          exact ih8 ((i + (-1))) (by omega) (hl.trans ((last_f (by omega) (show ¬ ((gA G 80 0 (i)) = u ∧ (gA G 81 0 (i)) ≤ k ∧ (gA G 82 0 (i)) ≤ t) by omega)).trans (by rw [show i + -1 + 1 = i by omega]))) (by omega)
        · skip
          refine pw_aload r_8_findInForce_24 rfl ?_
          refine pw_getR r_8_findInForce_25 fs_8_9 (by decide) ?_
          refine pw_iload r_8_findInForce_28 rfl ?_
          refine pw_iald r_8_findInForce_30 sh81 (by omega) (by omega) ?_
          refine pw_iload r_8_findInForce_31 rfl ?_
          refine pw_icmp_gt r_8_findInForce_32 (fun h32 => ?_) (fun h32 => ?_)
          · skip
            refine pw_iinc (b := 0) (ls' := [some (vR 8 (0)), some (vI (u)), some (vI (t)), some (vI (k)), some (vI ((i + (-1))))]) r_8_findInForce_49 rfl rfl (by omega) rfl ?_
            refine pw_goto r_8_findInForce_52 ?_
            exact ih8 ((i + (-1))) (by omega) (hl.trans ((last_f (by omega) (show ¬ ((gA G 80 0 (i)) = u ∧ (gA G 81 0 (i)) ≤ k ∧ (gA G 82 0 (i)) ≤ t) by omega)).trans (by rw [show i + -1 + 1 = i by omega]))) (by omega)
          · skip
            refine pw_aload r_8_findInForce_35 rfl ?_
            refine pw_getR r_8_findInForce_36 fs_8_10 (by decide) ?_
            refine pw_iload r_8_findInForce_39 rfl ?_
            refine pw_iald r_8_findInForce_41 sh82 (by omega) (by omega) ?_
            refine pw_iload r_8_findInForce_42 rfl ?_
            refine pw_icmp_gt r_8_findInForce_43 (fun h43 => ?_) (fun h43 => ?_)
            · skip
              refine pw_iinc (b := 0) (ls' := [some (vR 8 (0)), some (vI (u)), some (vI (t)), some (vI (k)), some (vI ((i + (-1))))]) r_8_findInForce_49 rfl rfl (by omega) rfl ?_
              refine pw_goto r_8_findInForce_52 ?_
              exact ih8 ((i + (-1))) (by omega) (hl.trans ((last_f (by omega) (show ¬ ((gA G 80 0 (i)) = u ∧ (gA G 81 0 (i)) ≤ k ∧ (gA G 82 0 (i)) ≤ t) by omega)).trans (by rw [show i + -1 + 1 = i by omega]))) (by omega)
            · skip
              refine pw_iload r_8_findInForce_46 rfl ?_
              refine pw_iret r_8_findInForce_48 rfl (Nat.le_refl _) ⟨rfl, ?_⟩
              rw [hl, last_t (by omega) (show ((gA G 80 0 (i)) = u ∧ (gA G 81 0 (i)) ≤ k ∧ (gA G 82 0 (i)) ≤ t) by omega)] at hP
              exact hP
  exact L8 _ (((gF G 8 (0) 0) - 1)) (by omega) (by rw [show (gF G 8 0 0) - 1 + 1 = (gF G 8 0 0) by omega]) (Nat.lt_succ_self _)
set_option maxRecDepth 10000 in
theorem sp_X12_force {l : Launch} {w : Wo} {d : Nat} {G : PH} {P : Option PV → PH → Prop} {u t k : Int} (htx : 0 ≤ (gF G 12 0 42) ∧ (gF G 12 0 42) ≤ 20) (hP : P (some (vI (lastOf (fun i => ((gA G 231 0 (i)) = u ∧ (gA G 232 0 (i)) ≤ k ∧ (gA G 233 0 (i)) ≤ t)) (fun i => i) (-1) (gF G 12 0 42)))) G) : PW l w M_X12_force (d + 0) 0 [some (vR 12 (0)), some (vI (u)), some (vI (t)), some (vI (k)), none, none] [] G P := by
  refine pw_const r_12_force_0 ?_
  refine pw_istore (ls' := [some (vR 12 (0)), some (vI (u)), some (vI (t)), some (vI (k)), some (vI ((-1))), none]) r_12_force_1 rfl rfl ?_
  refine pw_const r_12_force_3 ?_
  refine pw_istore (ls' := [some (vR 12 (0)), some (vI (u)), some (vI (t)), some (vI (k)), some (vI ((-1))), some (vI (0))]) r_12_force_4 rfl rfl ?_
  have L6 : ∀ (nF : Nat) (i v : Int), (hi : 0 ≤ i ∧ i ≤ (gF G 12 0 42)) → (hv : v = lastOf (fun i => ((gA G 231 0 (i)) = u ∧ (gA G 232 0 (i)) ≤ k ∧ (gA G 233 0 (i)) ≤ t)) (fun i => i) (-1) i) → ((gF G 12 0 42) - i).toNat < nF → PW l w M_X12_force (d + 0) 6 [some (vR 12 (0)), some (vI (u)), some (vI (t)), some (vI (k)), some (vI (v)), some (vI (i))] [] G P := by
    intro nF
    induction nF with
    | zero => intro _ _ _ _ hM; exact absurd hM (Nat.not_lt_zero _)
    | succ nF ih6 =>
      intro i v hi hv hM6
      refine pw_iload r_12_force_6 rfl ?_
      refine pw_aload r_12_force_8 rfl ?_
      refine pw_getI r_12_force_9 fs_12_42 (by decide) ?_
      refine pw_icmp_ge r_12_force_12 (fun h12 => ?_) (fun h12 => ?_)
      · skip
        refine pw_iload r_12_force_63 rfl ?_
        refine pw_iret r_12_force_65 rfl (Nat.le_refl _) ⟨rfl, ?_⟩
        rw [show (gF G 12 0 42) = i by omega] at hP
        exact pe hP hv
      · skip
        refine pw_aload r_12_force_15 rfl ?_
        refine pw_getR r_12_force_16 fs_12_39 (by decide) ?_
        refine pw_iload r_12_force_19 rfl ?_
        refine pw_iald r_12_force_21 sh231 (by omega) (by omega) ?_
        refine pw_iload r_12_force_22 rfl ?_
        refine pw_icmp_ne r_12_force_23 (fun h23 => ?_) (fun h23 => ?_)
        · skip
          refine pw_iload r_12_force_53 rfl ?_
          refine pw_istore (ls' := [some (vR 12 (0)), some (vI (u)), some (vI (t)), some (vI (k)), some (vI (v)), some (vI (i))]) r_12_force_55 rfl rfl ?_
          refine pw_iinc (b := 0) (ls' := [some (vR 12 (0)), some (vI (u)), some (vI (t)), some (vI (k)), some (vI (v)), some (vI ((i + 1)))]) r_12_force_57 rfl rfl (by omega) rfl ?_
          refine pw_goto r_12_force_60 ?_
          exact ih6 ((i + 1)) (v) (by omega) (by first | (rw [last_t hi.1 (show ((gA G 231 0 (i)) = u ∧ (gA G 232 0 (i)) ≤ k ∧ (gA G 233 0 (i)) ≤ t) by omega)]; done) | (rw [last_f hi.1 (show ¬ ((gA G 231 0 (i)) = u ∧ (gA G 232 0 (i)) ≤ k ∧ (gA G 233 0 (i)) ≤ t) by omega)]; exact hv)) (by omega)
        · skip
          refine pw_aload r_12_force_26 rfl ?_
          refine pw_getR r_12_force_27 fs_12_40 (by decide) ?_
          refine pw_iload r_12_force_30 rfl ?_
          refine pw_iald r_12_force_32 sh232 (by omega) (by omega) ?_
          refine pw_iload r_12_force_33 rfl ?_
          refine pw_icmp_gt r_12_force_34 (fun h34 => ?_) (fun h34 => ?_)
          · skip
            refine pw_iload r_12_force_53 rfl ?_
            refine pw_istore (ls' := [some (vR 12 (0)), some (vI (u)), some (vI (t)), some (vI (k)), some (vI (v)), some (vI (i))]) r_12_force_55 rfl rfl ?_
            refine pw_iinc (b := 0) (ls' := [some (vR 12 (0)), some (vI (u)), some (vI (t)), some (vI (k)), some (vI (v)), some (vI ((i + 1)))]) r_12_force_57 rfl rfl (by omega) rfl ?_
            refine pw_goto r_12_force_60 ?_
            exact ih6 ((i + 1)) (v) (by omega) (by first | (rw [last_t hi.1 (show ((gA G 231 0 (i)) = u ∧ (gA G 232 0 (i)) ≤ k ∧ (gA G 233 0 (i)) ≤ t) by omega)]; done) | (rw [last_f hi.1 (show ¬ ((gA G 231 0 (i)) = u ∧ (gA G 232 0 (i)) ≤ k ∧ (gA G 233 0 (i)) ≤ t) by omega)]; exact hv)) (by omega)
          · skip
            refine pw_aload r_12_force_37 rfl ?_
            refine pw_getR r_12_force_38 fs_12_41 (by decide) ?_
            refine pw_iload r_12_force_41 rfl ?_
            refine pw_iald r_12_force_43 sh233 (by omega) (by omega) ?_
            refine pw_iload r_12_force_44 rfl ?_
            refine pw_icmp_gt r_12_force_45 (fun h45 => ?_) (fun h45 => ?_)
            · skip
              refine pw_iload r_12_force_53 rfl ?_
              refine pw_istore (ls' := [some (vR 12 (0)), some (vI (u)), some (vI (t)), some (vI (k)), some (vI (v)), some (vI (i))]) r_12_force_55 rfl rfl ?_
              refine pw_iinc (b := 0) (ls' := [some (vR 12 (0)), some (vI (u)), some (vI (t)), some (vI (k)), some (vI (v)), some (vI ((i + 1)))]) r_12_force_57 rfl rfl (by omega) rfl ?_
              refine pw_goto r_12_force_60 ?_
              exact ih6 ((i + 1)) (v) (by omega) (by first | (rw [last_t hi.1 (show ((gA G 231 0 (i)) = u ∧ (gA G 232 0 (i)) ≤ k ∧ (gA G 233 0 (i)) ≤ t) by omega)]; done) | (rw [last_f hi.1 (show ¬ ((gA G 231 0 (i)) = u ∧ (gA G 232 0 (i)) ≤ k ∧ (gA G 233 0 (i)) ≤ t) by omega)]; exact hv)) (by omega)
            · skip
              refine pw_iload r_12_force_48 rfl ?_
              refine pw_goto r_12_force_50 ?_
              refine pw_istore (ls' := [some (vR 12 (0)), some (vI (u)), some (vI (t)), some (vI (k)), some (vI (i)), some (vI (i))]) r_12_force_55 rfl rfl ?_
              refine pw_iinc (b := 0) (ls' := [some (vR 12 (0)), some (vI (u)), some (vI (t)), some (vI (k)), some (vI (i)), some (vI ((i + 1)))]) r_12_force_57 rfl rfl (by omega) rfl ?_
              refine pw_goto r_12_force_60 ?_
              exact ih6 ((i + 1)) (i) (by omega) (by first | (rw [last_t hi.1 (show ((gA G 231 0 (i)) = u ∧ (gA G 232 0 (i)) ≤ k ∧ (gA G 233 0 (i)) ≤ t) by omega)]; done) | (rw [last_f hi.1 (show ¬ ((gA G 231 0 (i)) = u ∧ (gA G 232 0 (i)) ≤ k ∧ (gA G 233 0 (i)) ≤ t) by omega)]; exact hv)) (by omega)
  exact L6 _ (0) ((-1)) (by omega) (rfl) (Nat.lt_succ_self _)
set_option maxRecDepth 10000 in
theorem sp_X8_tellInForce {l : Launch} {w : Wo} {d : Nat} {G : PH} {P : Option PV → PH → Prop} {u t k : Int} (htx : 0 ≤ (gF G 8 0 0) ∧ (gF G 8 0 0) ≤ 20) (h1 : ¬ (((0 ≤ u ∧ u ≤ 39) ∧ u % 10 ≤ 2) ∧ (0 ≤ t ∧ t ≤ 600) ∧ 0 ≤ k ∧ k ≤ 600) → P (some (vI (-1))) G) (h2 : (((0 ≤ u ∧ u ≤ 39) ∧ u % 10 ≤ 2) ∧ (0 ≤ t ∧ t ≤ 600) ∧ 0 ≤ k ∧ k ≤ 600) → ∀ r, r = lastOf (fun i => ((gA G 80 0 (i)) = u ∧ (gA G 81 0 (i)) ≤ k ∧ (gA G 82 0 (i)) ≤ t)) (fun i => i) (-1) (gF G 8 0 0) → ∀ v, (r < 0 ∧ v = -4) ∨ (0 ≤ r ∧ v = r) → P (some (vI v)) G) : PW l w M_X8_tellInForce (d + 2) 0 [some (vR 8 (0)), some (vI (u)), some (vI (t)), some (vI (k)), none] [] G P := by
  refine pw_iload r_8_tellInForce_0 rfl ?_
  refine pw_callS (av := [vI (u)]) (st := []) (ls0 := [some (vI (u))]) r_8_tellInForce_1 rfl rfl rfl (Nat.le_refl _) ?_
  refine sp_X8_isPurpose  ?_
  refine pw_if_eqB r_8_tellInForce_4 (fun h04 => ?_) (fun h04 => ?_)
  · skip
    refine pw_const r_8_tellInForce_21 ?_
    refine pw_iret r_8_tellInForce_22 rfl (Nat.le_refl _) ⟨rfl, ?_⟩
    first | exact h1 (by omega) | exact h2 (by omega) _ rfl _ (by omega)
  · skip
    refine pw_iload r_8_tellInForce_7 rfl ?_
    refine pw_callS (av := [vI (t)]) (st := []) (ls0 := [some (vI (t))]) r_8_tellInForce_8 rfl rfl rfl (Nat.le_refl _) ?_
    refine sp_X11_isDay  ?_
    refine pw_if_eqB r_8_tellInForce_11 (fun h11 => ?_) (fun h11 => ?_)
    · skip
      refine pw_const r_8_tellInForce_21 ?_
      refine pw_iret r_8_tellInForce_22 rfl (Nat.le_refl _) ⟨rfl, ?_⟩
      first | exact h1 (by omega) | exact h2 (by omega) _ rfl _ (by omega)
    · skip
      refine pw_iload r_8_tellInForce_14 rfl ?_
      refine pw_callS (av := [vI (k)]) (st := []) (ls0 := [some (vI (k))]) r_8_tellInForce_15 rfl rfl rfl (Nat.le_refl _) ?_
      refine sp_X11_isDay  ?_
      refine pw_if_neB r_8_tellInForce_18 (fun h18 => ?_) (fun h18 => ?_)
      · skip
        refine pw_aload r_8_tellInForce_23 rfl ?_
        refine pw_iload r_8_tellInForce_24 rfl ?_
        refine pw_iload r_8_tellInForce_25 rfl ?_
        refine pw_iload r_8_tellInForce_26 rfl ?_
        refine pw_callV (av := [vI (u), vI (t), vI (k)]) (st := []) (ls0 := [some (vR 8 (0)), some (vI (u)), some (vI (t)), some (vI (k)), none]) r_8_tellInForce_27 rfl rfl rfl (Nat.le_refl _) ?_
        refine sp_X8_findInForce (by first | assumption | exact htx | omega) ?_
        refine pw_istore (ls' := [some (vR 8 (0)), some (vI (u)), some (vI (t)), some (vI (k)), some (vI (lastOf (fun i => ((gA G 80 0 (i)) = u ∧ (gA G 81 0 (i)) ≤ k ∧ (gA G 82 0 (i)) ≤ t)) (fun i => i) (-1) (gF G 8 0 0)))]) r_8_tellInForce_30 rfl rfl ?_
        refine pw_iload r_8_tellInForce_32 rfl ?_
        refine pw_if_ge r_8_tellInForce_34 (fun h34 => ?_) (fun h34 => ?_)
        · skip
          refine pw_iload r_8_tellInForce_42 rfl ?_
          refine pw_iret r_8_tellInForce_44 rfl (Nat.le_refl _) ⟨rfl, ?_⟩
          first | exact h1 (by omega) | exact h2 (by omega) _ rfl _ (by omega)
        · skip
          refine pw_const r_8_tellInForce_37 ?_
          refine pw_goto r_8_tellInForce_39 ?_
          refine pw_iret r_8_tellInForce_44 rfl (Nat.le_refl _) ⟨rfl, ?_⟩
          first | exact h1 (by omega) | exact h2 (by omega) _ rfl _ (by omega)
      · skip
        refine pw_const r_8_tellInForce_21 ?_
        refine pw_iret r_8_tellInForce_22 rfl (Nat.le_refl _) ⟨rfl, ?_⟩
        first | exact h1 (by omega) | exact h2 (by omega) _ rfl _ (by omega)
set_option maxRecDepth 10000 in
theorem sp_X12_inForce {l : Launch} {w : Wo} {d : Nat} {G : PH} {P : Option PV → PH → Prop} {u t k : Int} (htx : 0 ≤ (gF G 12 0 42) ∧ (gF G 12 0 42) ≤ 20) (h1 : ¬ (((0 ≤ u ∧ u ≤ 39) ∧ u % 10 ≤ 2) ∧ (0 ≤ t ∧ t ≤ 600) ∧ 0 ≤ k ∧ k ≤ 600) → P (some (vI (-1))) G) (h2 : (((0 ≤ u ∧ u ≤ 39) ∧ u % 10 ≤ 2) ∧ (0 ≤ t ∧ t ≤ 600) ∧ 0 ≤ k ∧ k ≤ 600) → ∀ r, r = lastOf (fun i => ((gA G 231 0 (i)) = u ∧ (gA G 232 0 (i)) ≤ k ∧ (gA G 233 0 (i)) ≤ t)) (fun i => i) (-1) (gF G 12 0 42) → ∀ v, (r < 0 ∧ v = -4) ∨ (0 ≤ r ∧ v = r) → P (some (vI v)) G) : PW l w M_X12_inForce (d + 2) 0 [some (vR 12 (0)), some (vI (u)), some (vI (t)), some (vI (k)), none] [] G P := by
  refine pw_iload r_12_inForce_0 rfl ?_
  refine pw_callS (av := [vI (u)]) (st := []) (ls0 := [some (vI (u))]) r_12_inForce_1 rfl rfl rfl (Nat.le_refl _) ?_
  refine sp_X12_isWhat  ?_
  refine pw_if_eqB r_12_inForce_4 (fun h04 => ?_) (fun h04 => ?_)
  · skip
    refine pw_const r_12_inForce_21 ?_
    refine pw_iret r_12_inForce_22 rfl (Nat.le_refl _) ⟨rfl, ?_⟩
    first | exact h1 (by omega) | exact h2 (by omega) _ rfl _ (by omega)
  · skip
    refine pw_iload r_12_inForce_7 rfl ?_
    refine pw_callS (av := [vI (t)]) (st := []) (ls0 := [some (vI (t))]) r_12_inForce_8 rfl rfl rfl (Nat.le_refl _) ?_
    refine sp_X12_isDay  ?_
    refine pw_if_eqB r_12_inForce_11 (fun h11 => ?_) (fun h11 => ?_)
    · skip
      refine pw_const r_12_inForce_21 ?_
      refine pw_iret r_12_inForce_22 rfl (Nat.le_refl _) ⟨rfl, ?_⟩
      first | exact h1 (by omega) | exact h2 (by omega) _ rfl _ (by omega)
    · skip
      refine pw_iload r_12_inForce_14 rfl ?_
      refine pw_callS (av := [vI (k)]) (st := []) (ls0 := [some (vI (k))]) r_12_inForce_15 rfl rfl rfl (Nat.le_refl _) ?_
      refine sp_X12_isDay  ?_
      refine pw_if_neB r_12_inForce_18 (fun h18 => ?_) (fun h18 => ?_)
      · skip
        refine pw_aload r_12_inForce_23 rfl ?_
        refine pw_iload r_12_inForce_24 rfl ?_
        refine pw_iload r_12_inForce_25 rfl ?_
        refine pw_iload r_12_inForce_26 rfl ?_
        refine pw_callV (av := [vI (u), vI (t), vI (k)]) (st := []) (ls0 := [some (vR 12 (0)), some (vI (u)), some (vI (t)), some (vI (k)), none, none]) r_12_inForce_27 rfl rfl rfl (Nat.le_refl _) ?_
        refine sp_X12_force (by first | assumption | exact htx | omega) ?_
        refine pw_istore (ls' := [some (vR 12 (0)), some (vI (u)), some (vI (t)), some (vI (k)), some (vI (lastOf (fun i => ((gA G 231 0 (i)) = u ∧ (gA G 232 0 (i)) ≤ k ∧ (gA G 233 0 (i)) ≤ t)) (fun i => i) (-1) (gF G 12 0 42)))]) r_12_inForce_30 rfl rfl ?_
        refine pw_iload r_12_inForce_32 rfl ?_
        refine pw_if_ge r_12_inForce_34 (fun h34 => ?_) (fun h34 => ?_)
        · skip
          refine pw_iload r_12_inForce_42 rfl ?_
          refine pw_iret r_12_inForce_44 rfl (Nat.le_refl _) ⟨rfl, ?_⟩
          first | exact h1 (by omega) | exact h2 (by omega) _ rfl _ (by omega)
        · skip
          refine pw_const r_12_inForce_37 ?_
          refine pw_goto r_12_inForce_39 ?_
          refine pw_iret r_12_inForce_44 rfl (Nat.le_refl _) ⟨rfl, ?_⟩
          first | exact h1 (by omega) | exact h2 (by omega) _ rfl _ (by omega)
      · skip
        refine pw_const r_12_inForce_21 ?_
        refine pw_iret r_12_inForce_22 rfl (Nat.le_refl _) ⟨rfl, ?_⟩
        first | exact h1 (by omega) | exact h2 (by omega) _ rfl _ (by omega)
set_option maxRecDepth 10000 in
theorem sp_X11_feed {l : Launch} {w : Wo} {d : Nat} {G : PH} {P : Option PV → PH → Prop} {n v : Int} (htp : 0 ≤ (gF G 8 0 1) ∧ (gF G 8 0 1) ≤ 160) (h1 : ¬ (1 ≤ n ∧ n ≤ 4) → P (some (vI (-1))) G) (h2 : (1 ≤ n ∧ n ≤ 4) → (160 < (gF G 8 0 1) + n) → P (some (vI (-2))) G) (h3 : (1 ≤ n ∧ n ≤ 4) → ((gF G 8 0 1) + n ≤ 160) → P (some (vI ((gF G 8 0 1) + n))) (sF (uA G 76 0 (filF (fun j0 => (gF G 8 0 1) ≤ j0) (fun j0 => b8 (pShr v (8 * (j0 - (gF G 8 0 1))))) (gA G 76 0) ((gF G 8 0 1) + n))) 8 0 1 ((gF G 8 0 1) + n))) : PW l w M_X11_feed (d + 2) 0 [some (vR 11 (0)), some (vI (n)), some (vI (v))] [] G P := by
  refine pw_aload r_11_feed_0 rfl ?_
  refine pw_getR r_11_feed_1 fs_11_3 (by decide) ?_
  refine pw_iload r_11_feed_4 rfl ?_
  refine pw_iload r_11_feed_5 rfl ?_
  refine pw_callV (av := [vI (n), vI (v)]) (st := []) (ls0 := [some (vR 8 (0)), some (vI (n)), some (vI (v)), none]) r_11_feed_6 rfl rfl rfl (Nat.le_refl _) ?_
  refine sp_X8_addBytes (by first | assumption | exact htp | omega) ?_ ?_ ?_
  · skip
    intro q1
    refine pw_iret r_11_feed_9 rfl (Nat.le_refl _) ⟨rfl, ?_⟩
    exact h1 q1
  · skip
    intro q1 q2
    refine pw_iret r_11_feed_9 rfl (Nat.le_refl _) ⟨rfl, ?_⟩
    exact h2 q1 q2
  · skip
    intro q1 q2
    refine pw_eqG (G' := sF (uA G 76 (0) (filF (fun j0 => (gF G 8 (0) 1) ≤ j0) (fun j0 => b8 (pShr v (8 * (j0 - (gF G 8 (0) 1))))) (gA G 76 0) ((gF G 8 (0) 1) + n))) 8 (0) 1 ((gF G 8 (0) 1) + n)) (by first | rfl | simp (disch := decide) [gF_sF, gF_sA, gF_uA, gF_sD, gA_sF, gA_sA, gA_uA, gA_sD, gD_sF, gD_sA, gD_uA, gD_sD]) ?_
    refine pw_iret r_11_feed_9 rfl (Nat.le_refl _) ⟨rfl, ?_⟩
    exact h3 q1 q2
set_option maxRecDepth 10000 in
theorem sp_X11_inForce {l : Launch} {w : Wo} {d : Nat} {G : PH} {P : Option PV → PH → Prop} {u t k : Int} (htx : 0 ≤ (gF G 8 0 0) ∧ (gF G 8 0 0) ≤ 20) (h1 : ¬ (((0 ≤ u ∧ u ≤ 39) ∧ u % 10 ≤ 2) ∧ (0 ≤ t ∧ t ≤ 600) ∧ 0 ≤ k ∧ k ≤ 600) → P (some (vI (-1))) G) (h2 : (((0 ≤ u ∧ u ≤ 39) ∧ u % 10 ≤ 2) ∧ (0 ≤ t ∧ t ≤ 600) ∧ 0 ≤ k ∧ k ≤ 600) → ∀ r, r = lastOf (fun i => ((gA G 80 0 (i)) = u ∧ (gA G 81 0 (i)) ≤ k ∧ (gA G 82 0 (i)) ≤ t)) (fun i => i) (-1) (gF G 8 0 0) → ∀ v, (r < 0 ∧ v = -4) ∨ (0 ≤ r ∧ v = r) → P (some (vI v)) G) : PW l w M_X11_inForce (d + 3) 0 [some (vR 11 (0)), some (vI (u)), some (vI (t)), some (vI (k))] [] G P := by
  refine pw_aload r_11_inForce_0 rfl ?_
  refine pw_getR r_11_inForce_1 fs_11_3 (by decide) ?_
  refine pw_iload r_11_inForce_4 rfl ?_
  refine pw_iload r_11_inForce_5 rfl ?_
  refine pw_iload r_11_inForce_6 rfl ?_
  refine pw_callV (av := [vI (u), vI (t), vI (k)]) (st := []) (ls0 := [some (vR 8 (0)), some (vI (u)), some (vI (t)), some (vI (k)), none]) r_11_inForce_7 rfl rfl rfl (Nat.le_refl _) ?_
  refine sp_X8_tellInForce (by first | assumption | exact htx | omega) ?_ ?_
  · skip
    intro q1
    refine pw_iret r_11_inForce_10 rfl (Nat.le_refl _) ⟨rfl, ?_⟩
    exact h1 q1
  · skip
    intro q1 r q2 v q3
    refine pw_iret r_11_inForce_10 rfl (Nat.le_refl _) ⟨rfl, ?_⟩
    exact h2 q1 r q2 v q3
set_option maxRecDepth 10000 in
theorem sp_X5_isTable {l : Launch} {w : Wo} {d : Nat} {G : PH} {P : Option PV → PH → Prop} {t : Int} (hP : P (some (vI (b2i (0 ≤ t ∧ t ≤ 3)))) G) : PW l w M_X5_isTable (d + 1) 0 [some (vI (t))] [] G P := by
  refine pw_iload r_5_isTable_0 rfl ?_
  refine pw_const r_5_isTable_1 ?_
  refine pw_const r_5_isTable_2 ?_
  refine pw_callS (av := [vI (t), vI (0), vI (3)]) (st := []) (ls0 := [some (vI (t)), some (vI (0)), some (vI (3))]) r_5_isTable_3 rfl rfl rfl (Nat.le_refl _) ?_
  refine sp_X11_within  ?_
  refine pw_zret r_5_isTable_6 rfl (b2i_01 _) (Nat.le_refl _) ⟨rfl, ?_⟩
  exact pe hP (by first | rfl | omega | exact (b2i_t (by omega)).symm | exact (b2i_f (by omega)).symm)
set_option maxRecDepth 10000 in
theorem sp_X12_isTable {l : Launch} {w : Wo} {d : Nat} {G : PH} {P : Option PV → PH → Prop} {t : Int} (hP : P (some (vI (b2i (0 ≤ t ∧ t ≤ 3)))) G) : PW l w M_X12_isTable (d + 1) 0 [some (vI (t))] [] G P := by
  refine pw_iload r_12_isTable_0 rfl ?_
  refine pw_const r_12_isTable_1 ?_
  refine pw_const r_12_isTable_2 ?_
  refine pw_callS (av := [vI (t), vI (0), vI (3)]) (st := []) (ls0 := [some (vI (t)), some (vI (0)), some (vI (3))]) r_12_isTable_3 rfl rfl rfl (Nat.le_refl _) ?_
  refine sp_X12_within  ?_
  refine pw_zret r_12_isTable_6 rfl (b2i_01 _) (Nat.le_refl _) ⟨rfl, ?_⟩
  exact pe hP (by first | rfl | omega | exact (b2i_t (by omega)).symm | exact (b2i_f (by omega)).symm)
set_option maxRecDepth 10000 in
theorem sp_X5_setTable {l : Launch} {w : Wo} {d : Nat} {G : PH} {P : Option PV → PH → Prop} {t s n : Int} (h1 : ¬ ((0 ≤ t ∧ t ≤ 3) ∧ (-1 ≤ s ∧ s ≤ 1) ∧ (s = -1 ∨ (0 ≤ n ∧ n ≤ 60))) → P (some (vI (-1))) G) (h2 : ((0 ≤ t ∧ t ≤ 3) ∧ (-1 ≤ s ∧ s ≤ 1) ∧ (s = -1 ∨ (0 ≤ n ∧ n ≤ 60))) → ∀ nn, ((s = -1 ∧ nn = 0) ∨ (s ≠ -1 ∧ nn = n)) → P (some (vI 1)) (uA (sA (sA G 58 0 (t) (s)) 59 0 (t) (nn)) 57 (t) (filF (fun _ => True) (fun _ => 0) (gA G 57 t) (60)))) : PW l w M_X5_setTable (d + 2) 0 [some (vR 5 (0)), some (vI (t)), some (vI (s)), some (vI (n)), none] [] G P := by
  refine pw_iload r_5_setTable_0 rfl ?_
  refine pw_callS (av := [vI (t)]) (st := []) (ls0 := [some (vI (t))]) r_5_setTable_1 rfl rfl rfl (Nat.le_refl _) ?_
  refine sp_X5_isTable  ?_
  refine pw_if_eqB r_5_setTable_4 (fun h04 => ?_) (fun h04 => ?_)
  · skip
    refine pw_const r_5_setTable_16 ?_
    refine pw_iret r_5_setTable_17 rfl (Nat.le_refl _) ⟨rfl, ?_⟩
    first | exact h1 (by omega) | exact h2 (by omega) nn hnn
  · skip
    refine pw_iload r_5_setTable_7 rfl ?_
    refine pw_const r_5_setTable_8 ?_
    refine pw_const r_5_setTable_9 ?_
    refine pw_callS (av := [vI (s), vI ((-1)), vI (1)]) (st := []) (ls0 := [some (vI (s)), some (vI ((-1))), some (vI (1))]) r_5_setTable_10 rfl rfl rfl (Nat.le_refl _) ?_
    refine sp_X11_within  ?_
    refine pw_if_neB r_5_setTable_13 (fun h13 => ?_) (fun h13 => ?_)
    · skip
      refine pw_iload r_5_setTable_18 rfl ?_
      refine pw_const r_5_setTable_19 ?_
      refine pw_icmp_eq r_5_setTable_20 (fun h20 => ?_) (fun h20 => ?_)
      · skip
        refine pw_aload r_5_setTable_35 rfl ?_
        refine pw_getR r_5_setTable_36 fs_5_10 (by decide) ?_
        refine pw_iload r_5_setTable_39 rfl ?_
        refine pw_iload r_5_setTable_40 rfl ?_
        refine pw_iast r_5_setTable_41 sh58 (by omega) (by omega) ?_
        refine pw_aload r_5_setTable_42 rfl ?_
        refine pw_getR r_5_setTable_43 fs_5_11 (by decide) ?_
        refine pw_iload r_5_setTable_46 rfl ?_
        refine pw_iload r_5_setTable_47 rfl ?_
        refine pw_const r_5_setTable_48 ?_
        refine pw_icmp_ne r_5_setTable_49 (fun h49 => ?_) (fun h49 => ?_)
        · skip
          refine pw_iload r_5_setTable_56 rfl ?_
          refine pw_iast r_5_setTable_57 sh59 (by omega) (by omega) ?_
          refine pw_const r_5_setTable_58 ?_
          refine pw_istore (ls' := [some (vR 5 (0)), some (vI (t)), some (vI (s)), some (vI (n)), some (vI (0))]) r_5_setTable_59 rfl rfl ?_
          have L61 : ∀ (nF : Nat) (nn i : Int), (hi : 0 ≤ i ∧ i ≤ 60) → (hnn : (s = -1 ∧ nn = 0) ∨ (s ≠ -1 ∧ nn = n)) → (60 - i).toNat < nF → PW l w M_X5_setTable (d + 2) 61 [some (vR 5 (0)), some (vI (t)), some (vI (s)), some (vI (n)), some (vI (i))] [] (uA (sA (sA G 58 (0) (t) (s)) 59 (0) (t) (nn)) 57 (t) (filF (fun _ => True) (fun _ => 0) (gA G 57 t) (i))) P := by
            intro nF
            induction nF with
            | zero => intro _ _ _ _ hM; exact absurd hM (Nat.not_lt_zero _)
            | succ nF ih61 =>
              intro nn i hi hnn hM61
              refine pw_iload r_5_setTable_61 rfl ?_
              refine pw_const r_5_setTable_63 ?_
              refine pw_icmp_ge r_5_setTable_65 (fun h65 => ?_) (fun h65 => ?_)
              · skip
                have ei : i = 60 := by omega
                subst ei
                refine pw_const r_5_setTable_84 ?_
                refine pw_iret r_5_setTable_85 rfl (Nat.le_refl _) ⟨rfl, ?_⟩
                first | exact h1 (by omega) | exact h2 (by omega) nn hnn
              · skip
                refine pw_aload r_5_setTable_68 rfl ?_
                refine pw_getR r_5_setTable_69 fs_5_9 (by decide) ?_
                refine pw_iload r_5_setTable_72 rfl ?_
                refine pw_aaldS r_5_setTable_73 sh56 (by decide) (by decide) aS56 rw57 (by omega) (by omega) ?_
                refine pw_iload r_5_setTable_74 rfl ?_
                refine pw_const r_5_setTable_76 ?_
                refine pw_sast r_5_setTable_77 sh57 (by omega) (by omega) ?_
                refine pw_iinc (b := 0) (ls' := [some (vR 5 (0)), some (vI (t)), some (vI (s)), some (vI (n)), some (vI ((i + 1)))]) r_5_setTable_78 rfl rfl (by omega) rfl ?_
                refine pw_goto r_5_setTable_81 ?_
                refine pw_eqG (G' := uA (sA (sA G 58 (0) (t) (s)) 59 (0) (t) (nn)) 57 (t) (filF (fun _ => True) (fun _ => 0) (gA G 57 t) ((i + 1)))) (by rw [sA_uA, fil_s (q := fun _ => True) (v := fun _ => 0) hi.1 trivial (by decide)]) ?_
                exact ih61 (nn) ((i + 1)) (by omega) (hnn) (by omega)
          refine pw_eqG (G' := uA (sA (sA G 58 (0) (t) (s)) 59 (0) (t) (n)) 57 (t) (filF (fun _ => True) (fun _ => 0) (gA G 57 t) (0))) (by rw [fil_0]; exact (uA_self _ 57 t).symm) ?_
          exact L61 _ (n) (0) (by omega) (by omega) (Nat.lt_succ_self _)
        · skip
          refine pw_const r_5_setTable_52 ?_
          refine pw_goto r_5_setTable_53 ?_
          refine pw_iast r_5_setTable_57 sh59 (by omega) (by omega) ?_
          refine pw_const r_5_setTable_58 ?_
          refine pw_istore (ls' := [some (vR 5 (0)), some (vI (t)), some (vI (s)), some (vI (n)), some (vI (0))]) r_5_setTable_59 rfl rfl ?_
          have L61 : ∀ (nF : Nat) (nn i : Int), (hi : 0 ≤ i ∧ i ≤ 60) → (hnn : (s = -1 ∧ nn = 0) ∨ (s ≠ -1 ∧ nn = n)) → (60 - i).toNat < nF → PW l w M_X5_setTable (d + 2) 61 [some (vR 5 (0)), some (vI (t)), some (vI (s)), some (vI (n)), some (vI (i))] [] (uA (sA (sA G 58 (0) (t) (s)) 59 (0) (t) (nn)) 57 (t) (filF (fun _ => True) (fun _ => 0) (gA G 57 t) (i))) P := by
            intro nF
            induction nF with
            | zero => intro _ _ _ _ hM; exact absurd hM (Nat.not_lt_zero _)
            | succ nF ih61 =>
              intro nn i hi hnn hM61
              refine pw_iload r_5_setTable_61 rfl ?_
              refine pw_const r_5_setTable_63 ?_
              refine pw_icmp_ge r_5_setTable_65 (fun h65 => ?_) (fun h65 => ?_)
              · skip
                have ei : i = 60 := by omega
                subst ei
                refine pw_const r_5_setTable_84 ?_
                refine pw_iret r_5_setTable_85 rfl (Nat.le_refl _) ⟨rfl, ?_⟩
                first | exact h1 (by omega) | exact h2 (by omega) nn hnn
              · skip
                refine pw_aload r_5_setTable_68 rfl ?_
                refine pw_getR r_5_setTable_69 fs_5_9 (by decide) ?_
                refine pw_iload r_5_setTable_72 rfl ?_
                refine pw_aaldS r_5_setTable_73 sh56 (by decide) (by decide) aS56 rw57 (by omega) (by omega) ?_
                refine pw_iload r_5_setTable_74 rfl ?_
                refine pw_const r_5_setTable_76 ?_
                refine pw_sast r_5_setTable_77 sh57 (by omega) (by omega) ?_
                refine pw_iinc (b := 0) (ls' := [some (vR 5 (0)), some (vI (t)), some (vI (s)), some (vI (n)), some (vI ((i + 1)))]) r_5_setTable_78 rfl rfl (by omega) rfl ?_
                refine pw_goto r_5_setTable_81 ?_
                refine pw_eqG (G' := uA (sA (sA G 58 (0) (t) (s)) 59 (0) (t) (nn)) 57 (t) (filF (fun _ => True) (fun _ => 0) (gA G 57 t) ((i + 1)))) (by rw [sA_uA, fil_s (q := fun _ => True) (v := fun _ => 0) hi.1 trivial (by decide)]) ?_
                exact ih61 (nn) ((i + 1)) (by omega) (hnn) (by omega)
          refine pw_eqG (G' := uA (sA (sA G 58 (0) (t) (s)) 59 (0) (t) (0)) 57 (t) (filF (fun _ => True) (fun _ => 0) (gA G 57 t) (0))) (by rw [fil_0]; exact (uA_self _ 57 t).symm) ?_
          exact L61 _ (0) (0) (by omega) (by omega) (Nat.lt_succ_self _)
      · skip
        refine pw_iload r_5_setTable_23 rfl ?_
        refine pw_const r_5_setTable_24 ?_
        refine pw_const r_5_setTable_25 ?_
        refine pw_callS (av := [vI (n), vI (0), vI (60)]) (st := []) (ls0 := [some (vI (n)), some (vI (0)), some (vI (60))]) r_5_setTable_27 rfl rfl rfl (Nat.le_refl _) ?_
        refine sp_X11_within  ?_
        refine pw_if_neB r_5_setTable_30 (fun h30 => ?_) (fun h30 => ?_)
        · skip
          refine pw_aload r_5_setTable_35 rfl ?_
          refine pw_getR r_5_setTable_36 fs_5_10 (by decide) ?_
          refine pw_iload r_5_setTable_39 rfl ?_
          refine pw_iload r_5_setTable_40 rfl ?_
          refine pw_iast r_5_setTable_41 sh58 (by omega) (by omega) ?_
          refine pw_aload r_5_setTable_42 rfl ?_
          refine pw_getR r_5_setTable_43 fs_5_11 (by decide) ?_
          refine pw_iload r_5_setTable_46 rfl ?_
          refine pw_iload r_5_setTable_47 rfl ?_
          refine pw_const r_5_setTable_48 ?_
          refine pw_icmp_ne r_5_setTable_49 (fun h49 => ?_) (fun h49 => ?_)
          · skip
            refine pw_iload r_5_setTable_56 rfl ?_
            refine pw_iast r_5_setTable_57 sh59 (by omega) (by omega) ?_
            refine pw_const r_5_setTable_58 ?_
            refine pw_istore (ls' := [some (vR 5 (0)), some (vI (t)), some (vI (s)), some (vI (n)), some (vI (0))]) r_5_setTable_59 rfl rfl ?_
            have L61 : ∀ (nF : Nat) (nn i : Int), (hi : 0 ≤ i ∧ i ≤ 60) → (hnn : (s = -1 ∧ nn = 0) ∨ (s ≠ -1 ∧ nn = n)) → (60 - i).toNat < nF → PW l w M_X5_setTable (d + 2) 61 [some (vR 5 (0)), some (vI (t)), some (vI (s)), some (vI (n)), some (vI (i))] [] (uA (sA (sA G 58 (0) (t) (s)) 59 (0) (t) (nn)) 57 (t) (filF (fun _ => True) (fun _ => 0) (gA G 57 t) (i))) P := by
              intro nF
              induction nF with
              | zero => intro _ _ _ _ hM; exact absurd hM (Nat.not_lt_zero _)
              | succ nF ih61 =>
                intro nn i hi hnn hM61
                refine pw_iload r_5_setTable_61 rfl ?_
                refine pw_const r_5_setTable_63 ?_
                refine pw_icmp_ge r_5_setTable_65 (fun h65 => ?_) (fun h65 => ?_)
                · skip
                  have ei : i = 60 := by omega
                  subst ei
                  refine pw_const r_5_setTable_84 ?_
                  refine pw_iret r_5_setTable_85 rfl (Nat.le_refl _) ⟨rfl, ?_⟩
                  first | exact h1 (by omega) | exact h2 (by omega) nn hnn
                · skip
                  refine pw_aload r_5_setTable_68 rfl ?_
                  refine pw_getR r_5_setTable_69 fs_5_9 (by decide) ?_
                  refine pw_iload r_5_setTable_72 rfl ?_
                  refine pw_aaldS r_5_setTable_73 sh56 (by decide) (by decide) aS56 rw57 (by omega) (by omega) ?_
                  refine pw_iload r_5_setTable_74 rfl ?_
                  refine pw_const r_5_setTable_76 ?_
                  refine pw_sast r_5_setTable_77 sh57 (by omega) (by omega) ?_
                  refine pw_iinc (b := 0) (ls' := [some (vR 5 (0)), some (vI (t)), some (vI (s)), some (vI (n)), some (vI ((i + 1)))]) r_5_setTable_78 rfl rfl (by omega) rfl ?_
                  refine pw_goto r_5_setTable_81 ?_
                  refine pw_eqG (G' := uA (sA (sA G 58 (0) (t) (s)) 59 (0) (t) (nn)) 57 (t) (filF (fun _ => True) (fun _ => 0) (gA G 57 t) ((i + 1)))) (by rw [sA_uA, fil_s (q := fun _ => True) (v := fun _ => 0) hi.1 trivial (by decide)]) ?_
                  exact ih61 (nn) ((i + 1)) (by omega) (hnn) (by omega)
            refine pw_eqG (G' := uA (sA (sA G 58 (0) (t) (s)) 59 (0) (t) (n)) 57 (t) (filF (fun _ => True) (fun _ => 0) (gA G 57 t) (0))) (by rw [fil_0]; exact (uA_self _ 57 t).symm) ?_
            exact L61 _ (n) (0) (by omega) (by omega) (Nat.lt_succ_self _)
          · skip
            refine pw_const r_5_setTable_52 ?_
            refine pw_goto r_5_setTable_53 ?_
            refine pw_iast r_5_setTable_57 sh59 (by omega) (by omega) ?_
            refine pw_const r_5_setTable_58 ?_
            refine pw_istore (ls' := [some (vR 5 (0)), some (vI (t)), some (vI (s)), some (vI (n)), some (vI (0))]) r_5_setTable_59 rfl rfl ?_
            have L61 : ∀ (nF : Nat) (nn i : Int), (hi : 0 ≤ i ∧ i ≤ 60) → (hnn : (s = -1 ∧ nn = 0) ∨ (s ≠ -1 ∧ nn = n)) → (60 - i).toNat < nF → PW l w M_X5_setTable (d + 2) 61 [some (vR 5 (0)), some (vI (t)), some (vI (s)), some (vI (n)), some (vI (i))] [] (uA (sA (sA G 58 (0) (t) (s)) 59 (0) (t) (nn)) 57 (t) (filF (fun _ => True) (fun _ => 0) (gA G 57 t) (i))) P := by
              intro nF
              induction nF with
              | zero => intro _ _ _ _ hM; exact absurd hM (Nat.not_lt_zero _)
              | succ nF ih61 =>
                intro nn i hi hnn hM61
                refine pw_iload r_5_setTable_61 rfl ?_
                refine pw_const r_5_setTable_63 ?_
                refine pw_icmp_ge r_5_setTable_65 (fun h65 => ?_) (fun h65 => ?_)
                · skip
                  have ei : i = 60 := by omega
                  subst ei
                  refine pw_const r_5_setTable_84 ?_
                  refine pw_iret r_5_setTable_85 rfl (Nat.le_refl _) ⟨rfl, ?_⟩
                  first | exact h1 (by omega) | exact h2 (by omega) nn hnn
                · skip
                  refine pw_aload r_5_setTable_68 rfl ?_
                  refine pw_getR r_5_setTable_69 fs_5_9 (by decide) ?_
                  refine pw_iload r_5_setTable_72 rfl ?_
                  refine pw_aaldS r_5_setTable_73 sh56 (by decide) (by decide) aS56 rw57 (by omega) (by omega) ?_
                  refine pw_iload r_5_setTable_74 rfl ?_
                  refine pw_const r_5_setTable_76 ?_
                  refine pw_sast r_5_setTable_77 sh57 (by omega) (by omega) ?_
                  refine pw_iinc (b := 0) (ls' := [some (vR 5 (0)), some (vI (t)), some (vI (s)), some (vI (n)), some (vI ((i + 1)))]) r_5_setTable_78 rfl rfl (by omega) rfl ?_
                  refine pw_goto r_5_setTable_81 ?_
                  refine pw_eqG (G' := uA (sA (sA G 58 (0) (t) (s)) 59 (0) (t) (nn)) 57 (t) (filF (fun _ => True) (fun _ => 0) (gA G 57 t) ((i + 1)))) (by rw [sA_uA, fil_s (q := fun _ => True) (v := fun _ => 0) hi.1 trivial (by decide)]) ?_
                  exact ih61 (nn) ((i + 1)) (by omega) (hnn) (by omega)
            refine pw_eqG (G' := uA (sA (sA G 58 (0) (t) (s)) 59 (0) (t) (0)) 57 (t) (filF (fun _ => True) (fun _ => 0) (gA G 57 t) (0))) (by rw [fil_0]; exact (uA_self _ 57 t).symm) ?_
            exact L61 _ (0) (0) (by omega) (by omega) (Nat.lt_succ_self _)
        · skip
          refine pw_const r_5_setTable_33 ?_
          refine pw_iret r_5_setTable_34 rfl (Nat.le_refl _) ⟨rfl, ?_⟩
          first | exact h1 (by omega) | exact h2 (by omega) nn hnn
    · skip
      refine pw_const r_5_setTable_16 ?_
      refine pw_iret r_5_setTable_17 rfl (Nat.le_refl _) ⟨rfl, ?_⟩
      first | exact h1 (by omega) | exact h2 (by omega) nn hnn
set_option maxRecDepth 10000 in
theorem sp_X12_table {l : Launch} {w : Wo} {d : Nat} {G : PH} {P : Option PV → PH → Prop} {t s n : Int} (h1 : ¬ ((0 ≤ t ∧ t ≤ 3) ∧ (-1 ≤ s ∧ s ≤ 1) ∧ (s = -1 ∨ (0 ≤ n ∧ n ≤ 60))) → P (some (vI (-1))) G) (h2 : ((0 ≤ t ∧ t ≤ 3) ∧ (-1 ≤ s ∧ s ≤ 1) ∧ (s = -1 ∨ (0 ≤ n ∧ n ≤ 60))) → ∀ nn, ((s = -1 ∧ nn = 0) ∨ (s ≠ -1 ∧ nn = n)) → P (some (vI 1)) (uA (sA (sA G 270 0 (t) (s)) 271 0 (t) (nn)) 272 0 (filF (fun j0 => 60 * t ≤ j0) (fun _ => 0) (gA G 272 0) (60 * t + 60)))) : PW l w M_X12_table (d + 2) 0 [some (vR 12 (0)), some (vI (t)), some (vI (s)), some (vI (n)), none] [] G P := by
  refine pw_iload r_12_table_0 rfl ?_
  refine pw_callS (av := [vI (t)]) (st := []) (ls0 := [some (vI (t))]) r_12_table_1 rfl rfl rfl (Nat.le_refl _) ?_
  refine sp_X12_isTable  ?_
  refine pw_if_eqB r_12_table_4 (fun h04 => ?_) (fun h04 => ?_)
  · skip
    refine pw_const r_12_table_30 ?_
    refine pw_iret r_12_table_31 rfl (Nat.le_refl _) ⟨rfl, ?_⟩
    first | exact h1 (by omega) | exact h2 (by omega) nn hnn
  · skip
    refine pw_iload r_12_table_7 rfl ?_
    refine pw_const r_12_table_8 ?_
    refine pw_const r_12_table_9 ?_
    refine pw_callS (av := [vI (s), vI ((-1)), vI (1)]) (st := []) (ls0 := [some (vI (s)), some (vI ((-1))), some (vI (1))]) r_12_table_10 rfl rfl rfl (Nat.le_refl _) ?_
    refine sp_X12_within  ?_
    refine pw_if_eqB r_12_table_13 (fun h13 => ?_) (fun h13 => ?_)
    · skip
      refine pw_const r_12_table_30 ?_
      refine pw_iret r_12_table_31 rfl (Nat.le_refl _) ⟨rfl, ?_⟩
      first | exact h1 (by omega) | exact h2 (by omega) nn hnn
    · skip
      refine pw_iload r_12_table_16 rfl ?_
      refine pw_if_lt r_12_table_17 (fun h17 => ?_) (fun h17 => ?_)
      · skip
        refine pw_aload r_12_table_32 rfl ?_
        refine pw_getR r_12_table_33 fs_12_106 (by decide) ?_
        refine pw_iload r_12_table_36 rfl ?_
        refine pw_iload r_12_table_37 rfl ?_
        refine pw_iast r_12_table_38 sh270 (by omega) (by omega) ?_
        refine pw_aload r_12_table_39 rfl ?_
        refine pw_getR r_12_table_40 fs_12_107 (by decide) ?_
        refine pw_iload r_12_table_43 rfl ?_
        refine pw_iload r_12_table_44 rfl ?_
        refine pw_if_ge r_12_table_45 (fun h45 => ?_) (fun h45 => ?_)
        · skip
          refine pw_iload r_12_table_52 rfl ?_
          refine pw_iast r_12_table_53 sh271 (by omega) (by omega) ?_
          refine pw_const r_12_table_54 ?_
          refine pw_iload r_12_table_56 rfl ?_
          refine pw_imul r_12_table_57 (by omega) ?_
          refine pw_istore (ls' := [some (vR 12 (0)), some (vI (t)), some (vI (s)), some (vI (n)), some (vI ((60 * t)))]) r_12_table_58 rfl rfl ?_
          have L60 : ∀ (nF : Nat) (nn i : Int), (hi : 60 * t ≤ i ∧ i ≤ 60 * t + 60) → (hnn : (s = -1 ∧ nn = 0) ∨ (s ≠ -1 ∧ nn = n)) → (60 * t + 60 - i).toNat < nF → PW l w M_X12_table (d + 2) 60 [some (vR 12 (0)), some (vI (t)), some (vI (s)), some (vI (n)), some (vI (i))] [] (uA (sA (sA G 270 (0) (t) (s)) 271 (0) (t) (nn)) 272 (0) (filF (fun j0 => 60 * t ≤ j0) (fun _ => 0) (gA G 272 0) (i))) P := by
            intro nF
            induction nF with
            | zero => intro _ _ _ _ hM; exact absurd hM (Nat.not_lt_zero _)
            | succ nF ih60 =>
              intro nn i hi hnn hM60
              refine pw_iload r_12_table_60 rfl ?_
              refine pw_const r_12_table_62 ?_
              refine pw_iload r_12_table_64 rfl ?_
              refine pw_imul r_12_table_65 (by omega) ?_
              refine pw_const r_12_table_66 ?_
              refine pw_iadd r_12_table_68 (by omega) ?_
              refine pw_icmp_ge r_12_table_69 (fun h69 => ?_) (fun h69 => ?_)
              · skip
                have ei : i = 60 * t + 60 := by omega
                subst ei
                refine pw_const r_12_table_86 ?_
                refine pw_iret r_12_table_87 rfl (Nat.le_refl _) ⟨rfl, ?_⟩
                first | exact h1 (by omega) | exact h2 (by omega) nn hnn
              · skip
                refine pw_aload r_12_table_72 rfl ?_
                refine pw_getR r_12_table_73 fs_12_108 (by decide) ?_
                refine pw_iload r_12_table_76 rfl ?_
                refine pw_const r_12_table_78 ?_
                refine pw_iast r_12_table_79 sh272 (by omega) (by omega) ?_
                refine pw_iinc (b := 0) (ls' := [some (vR 12 (0)), some (vI (t)), some (vI (s)), some (vI (n)), some (vI ((i + 1)))]) r_12_table_80 rfl rfl (by omega) rfl ?_
                refine pw_goto r_12_table_83 ?_
                refine pw_eqG (G' := uA (sA (sA G 270 (0) (t) (s)) 271 (0) (t) (nn)) 272 (0) (filF (fun j0 => 60 * t ≤ j0) (fun _ => 0) (gA G 272 0) ((i + 1)))) (by rw [sA_uA, fil_s (q := fun j0 => 60 * t ≤ j0) (v := fun _ => 0) (by omega) (by omega) rfl]) ?_
                exact ih60 (nn) ((i + 1)) (by omega) (hnn) (by omega)
          refine pw_eqG (G' := uA (sA (sA G 270 (0) (t) (s)) 271 (0) (t) (n)) 272 (0) (filF (fun j0 => 60 * t ≤ j0) (fun _ => 0) (gA G 272 0) ((60 * t)))) (by rw [fil_none (q := fun j0 => 60 * t ≤ j0) (fun i a b => by omega)]; exact (uA_self _ 272 0).symm) ?_
          exact L60 _ (n) ((60 * t)) (by omega) (by omega) (Nat.lt_succ_self _)
        · skip
          refine pw_const r_12_table_48 ?_
          refine pw_goto r_12_table_49 ?_
          refine pw_iast r_12_table_53 sh271 (by omega) (by omega) ?_
          refine pw_const r_12_table_54 ?_
          refine pw_iload r_12_table_56 rfl ?_
          refine pw_imul r_12_table_57 (by omega) ?_
          refine pw_istore (ls' := [some (vR 12 (0)), some (vI (t)), some (vI (s)), some (vI (n)), some (vI ((60 * t)))]) r_12_table_58 rfl rfl ?_
          have L60 : ∀ (nF : Nat) (nn i : Int), (hi : 60 * t ≤ i ∧ i ≤ 60 * t + 60) → (hnn : (s = -1 ∧ nn = 0) ∨ (s ≠ -1 ∧ nn = n)) → (60 * t + 60 - i).toNat < nF → PW l w M_X12_table (d + 2) 60 [some (vR 12 (0)), some (vI (t)), some (vI (s)), some (vI (n)), some (vI (i))] [] (uA (sA (sA G 270 (0) (t) (s)) 271 (0) (t) (nn)) 272 (0) (filF (fun j0 => 60 * t ≤ j0) (fun _ => 0) (gA G 272 0) (i))) P := by
            intro nF
            induction nF with
            | zero => intro _ _ _ _ hM; exact absurd hM (Nat.not_lt_zero _)
            | succ nF ih60 =>
              intro nn i hi hnn hM60
              refine pw_iload r_12_table_60 rfl ?_
              refine pw_const r_12_table_62 ?_
              refine pw_iload r_12_table_64 rfl ?_
              refine pw_imul r_12_table_65 (by omega) ?_
              refine pw_const r_12_table_66 ?_
              refine pw_iadd r_12_table_68 (by omega) ?_
              refine pw_icmp_ge r_12_table_69 (fun h69 => ?_) (fun h69 => ?_)
              · skip
                have ei : i = 60 * t + 60 := by omega
                subst ei
                refine pw_const r_12_table_86 ?_
                refine pw_iret r_12_table_87 rfl (Nat.le_refl _) ⟨rfl, ?_⟩
                first | exact h1 (by omega) | exact h2 (by omega) nn hnn
              · skip
                refine pw_aload r_12_table_72 rfl ?_
                refine pw_getR r_12_table_73 fs_12_108 (by decide) ?_
                refine pw_iload r_12_table_76 rfl ?_
                refine pw_const r_12_table_78 ?_
                refine pw_iast r_12_table_79 sh272 (by omega) (by omega) ?_
                refine pw_iinc (b := 0) (ls' := [some (vR 12 (0)), some (vI (t)), some (vI (s)), some (vI (n)), some (vI ((i + 1)))]) r_12_table_80 rfl rfl (by omega) rfl ?_
                refine pw_goto r_12_table_83 ?_
                refine pw_eqG (G' := uA (sA (sA G 270 (0) (t) (s)) 271 (0) (t) (nn)) 272 (0) (filF (fun j0 => 60 * t ≤ j0) (fun _ => 0) (gA G 272 0) ((i + 1)))) (by rw [sA_uA, fil_s (q := fun j0 => 60 * t ≤ j0) (v := fun _ => 0) (by omega) (by omega) rfl]) ?_
                exact ih60 (nn) ((i + 1)) (by omega) (hnn) (by omega)
          refine pw_eqG (G' := uA (sA (sA G 270 (0) (t) (s)) 271 (0) (t) (0)) 272 (0) (filF (fun j0 => 60 * t ≤ j0) (fun _ => 0) (gA G 272 0) ((60 * t)))) (by rw [fil_none (q := fun j0 => 60 * t ≤ j0) (fun i a b => by omega)]; exact (uA_self _ 272 0).symm) ?_
          exact L60 _ (0) ((60 * t)) (by omega) (by omega) (Nat.lt_succ_self _)
      · skip
        refine pw_iload r_12_table_20 rfl ?_
        refine pw_const r_12_table_21 ?_
        refine pw_const r_12_table_22 ?_
        refine pw_callS (av := [vI (n), vI (0), vI (60)]) (st := []) (ls0 := [some (vI (n)), some (vI (0)), some (vI (60))]) r_12_table_24 rfl rfl rfl (Nat.le_refl _) ?_
        refine sp_X12_within  ?_
        refine pw_if_neB r_12_table_27 (fun h27 => ?_) (fun h27 => ?_)
        · skip
          refine pw_aload r_12_table_32 rfl ?_
          refine pw_getR r_12_table_33 fs_12_106 (by decide) ?_
          refine pw_iload r_12_table_36 rfl ?_
          refine pw_iload r_12_table_37 rfl ?_
          refine pw_iast r_12_table_38 sh270 (by omega) (by omega) ?_
          refine pw_aload r_12_table_39 rfl ?_
          refine pw_getR r_12_table_40 fs_12_107 (by decide) ?_
          refine pw_iload r_12_table_43 rfl ?_
          refine pw_iload r_12_table_44 rfl ?_
          refine pw_if_ge r_12_table_45 (fun h45 => ?_) (fun h45 => ?_)
          · skip
            refine pw_iload r_12_table_52 rfl ?_
            refine pw_iast r_12_table_53 sh271 (by omega) (by omega) ?_
            refine pw_const r_12_table_54 ?_
            refine pw_iload r_12_table_56 rfl ?_
            refine pw_imul r_12_table_57 (by omega) ?_
            refine pw_istore (ls' := [some (vR 12 (0)), some (vI (t)), some (vI (s)), some (vI (n)), some (vI ((60 * t)))]) r_12_table_58 rfl rfl ?_
            have L60 : ∀ (nF : Nat) (nn i : Int), (hi : 60 * t ≤ i ∧ i ≤ 60 * t + 60) → (hnn : (s = -1 ∧ nn = 0) ∨ (s ≠ -1 ∧ nn = n)) → (60 * t + 60 - i).toNat < nF → PW l w M_X12_table (d + 2) 60 [some (vR 12 (0)), some (vI (t)), some (vI (s)), some (vI (n)), some (vI (i))] [] (uA (sA (sA G 270 (0) (t) (s)) 271 (0) (t) (nn)) 272 (0) (filF (fun j0 => 60 * t ≤ j0) (fun _ => 0) (gA G 272 0) (i))) P := by
              intro nF
              induction nF with
              | zero => intro _ _ _ _ hM; exact absurd hM (Nat.not_lt_zero _)
              | succ nF ih60 =>
                intro nn i hi hnn hM60
                refine pw_iload r_12_table_60 rfl ?_
                refine pw_const r_12_table_62 ?_
                refine pw_iload r_12_table_64 rfl ?_
                refine pw_imul r_12_table_65 (by omega) ?_
                refine pw_const r_12_table_66 ?_
                refine pw_iadd r_12_table_68 (by omega) ?_
                refine pw_icmp_ge r_12_table_69 (fun h69 => ?_) (fun h69 => ?_)
                · skip
                  have ei : i = 60 * t + 60 := by omega
                  subst ei
                  refine pw_const r_12_table_86 ?_
                  refine pw_iret r_12_table_87 rfl (Nat.le_refl _) ⟨rfl, ?_⟩
                  first | exact h1 (by omega) | exact h2 (by omega) nn hnn
                · skip
                  refine pw_aload r_12_table_72 rfl ?_
                  refine pw_getR r_12_table_73 fs_12_108 (by decide) ?_
                  refine pw_iload r_12_table_76 rfl ?_
                  refine pw_const r_12_table_78 ?_
                  refine pw_iast r_12_table_79 sh272 (by omega) (by omega) ?_
                  refine pw_iinc (b := 0) (ls' := [some (vR 12 (0)), some (vI (t)), some (vI (s)), some (vI (n)), some (vI ((i + 1)))]) r_12_table_80 rfl rfl (by omega) rfl ?_
                  refine pw_goto r_12_table_83 ?_
                  refine pw_eqG (G' := uA (sA (sA G 270 (0) (t) (s)) 271 (0) (t) (nn)) 272 (0) (filF (fun j0 => 60 * t ≤ j0) (fun _ => 0) (gA G 272 0) ((i + 1)))) (by rw [sA_uA, fil_s (q := fun j0 => 60 * t ≤ j0) (v := fun _ => 0) (by omega) (by omega) rfl]) ?_
                  exact ih60 (nn) ((i + 1)) (by omega) (hnn) (by omega)
            refine pw_eqG (G' := uA (sA (sA G 270 (0) (t) (s)) 271 (0) (t) (n)) 272 (0) (filF (fun j0 => 60 * t ≤ j0) (fun _ => 0) (gA G 272 0) ((60 * t)))) (by rw [fil_none (q := fun j0 => 60 * t ≤ j0) (fun i a b => by omega)]; exact (uA_self _ 272 0).symm) ?_
            exact L60 _ (n) ((60 * t)) (by omega) (by omega) (Nat.lt_succ_self _)
          · skip
            refine pw_const r_12_table_48 ?_
            refine pw_goto r_12_table_49 ?_
            refine pw_iast r_12_table_53 sh271 (by omega) (by omega) ?_
            refine pw_const r_12_table_54 ?_
            refine pw_iload r_12_table_56 rfl ?_
            refine pw_imul r_12_table_57 (by omega) ?_
            refine pw_istore (ls' := [some (vR 12 (0)), some (vI (t)), some (vI (s)), some (vI (n)), some (vI ((60 * t)))]) r_12_table_58 rfl rfl ?_
            have L60 : ∀ (nF : Nat) (nn i : Int), (hi : 60 * t ≤ i ∧ i ≤ 60 * t + 60) → (hnn : (s = -1 ∧ nn = 0) ∨ (s ≠ -1 ∧ nn = n)) → (60 * t + 60 - i).toNat < nF → PW l w M_X12_table (d + 2) 60 [some (vR 12 (0)), some (vI (t)), some (vI (s)), some (vI (n)), some (vI (i))] [] (uA (sA (sA G 270 (0) (t) (s)) 271 (0) (t) (nn)) 272 (0) (filF (fun j0 => 60 * t ≤ j0) (fun _ => 0) (gA G 272 0) (i))) P := by
              intro nF
              induction nF with
              | zero => intro _ _ _ _ hM; exact absurd hM (Nat.not_lt_zero _)
              | succ nF ih60 =>
                intro nn i hi hnn hM60
                refine pw_iload r_12_table_60 rfl ?_
                refine pw_const r_12_table_62 ?_
                refine pw_iload r_12_table_64 rfl ?_
                refine pw_imul r_12_table_65 (by omega) ?_
                refine pw_const r_12_table_66 ?_
                refine pw_iadd r_12_table_68 (by omega) ?_
                refine pw_icmp_ge r_12_table_69 (fun h69 => ?_) (fun h69 => ?_)
                · skip
                  have ei : i = 60 * t + 60 := by omega
                  subst ei
                  refine pw_const r_12_table_86 ?_
                  refine pw_iret r_12_table_87 rfl (Nat.le_refl _) ⟨rfl, ?_⟩
                  first | exact h1 (by omega) | exact h2 (by omega) nn hnn
                · skip
                  refine pw_aload r_12_table_72 rfl ?_
                  refine pw_getR r_12_table_73 fs_12_108 (by decide) ?_
                  refine pw_iload r_12_table_76 rfl ?_
                  refine pw_const r_12_table_78 ?_
                  refine pw_iast r_12_table_79 sh272 (by omega) (by omega) ?_
                  refine pw_iinc (b := 0) (ls' := [some (vR 12 (0)), some (vI (t)), some (vI (s)), some (vI (n)), some (vI ((i + 1)))]) r_12_table_80 rfl rfl (by omega) rfl ?_
                  refine pw_goto r_12_table_83 ?_
                  refine pw_eqG (G' := uA (sA (sA G 270 (0) (t) (s)) 271 (0) (t) (nn)) 272 (0) (filF (fun j0 => 60 * t ≤ j0) (fun _ => 0) (gA G 272 0) ((i + 1)))) (by rw [sA_uA, fil_s (q := fun j0 => 60 * t ≤ j0) (v := fun _ => 0) (by omega) (by omega) rfl]) ?_
                  exact ih60 (nn) ((i + 1)) (by omega) (hnn) (by omega)
            refine pw_eqG (G' := uA (sA (sA G 270 (0) (t) (s)) 271 (0) (t) (0)) 272 (0) (filF (fun j0 => 60 * t ≤ j0) (fun _ => 0) (gA G 272 0) ((60 * t)))) (by rw [fil_none (q := fun j0 => 60 * t ≤ j0) (fun i a b => by omega)]; exact (uA_self _ 272 0).symm) ?_
            exact L60 _ (0) ((60 * t)) (by omega) (by omega) (Nat.lt_succ_self _)
        · skip
          refine pw_const r_12_table_30 ?_
          refine pw_iret r_12_table_31 rfl (Nat.le_refl _) ⟨rfl, ?_⟩
          first | exact h1 (by omega) | exact h2 (by omega) nn hnn
set_option maxRecDepth 10000 in
theorem sp_X5_setItem {l : Launch} {w : Wo} {d : Nat} {G : PH} {P : Option PV → PH → Prop} {t i v : Int} (hts : ∀ t, 0 ≤ t → t < 4 → (-1 ≤ (gA G 58 0 (t)) ∧ (gA G 58 0 (t)) ≤ 1) ∧ 0 ≤ (gA G 59 0 (t)) ∧ (gA G 59 0 (t)) ≤ 60) (h1 : ¬ (0 ≤ t ∧ t ≤ 3) → P (some (vI (-1))) G) (h2 : (0 ≤ t ∧ t ≤ 3) → ((gA G 58 0 (t)) = -1) → P (some (vI (-5))) G) (h3 : (0 ≤ t ∧ t ≤ 3) → ((gA G 58 0 (t)) ≠ -1) → (¬ (0 ≤ i ∧ i < (gA G 59 0 (t)))) → P (some (vI (-1))) G) (h4 : (0 ≤ t ∧ t ≤ 3) → ((gA G 58 0 (t)) ≠ -1) → (0 ≤ i ∧ i < (gA G 59 0 (t))) → ∀ y, ((gA G 58 0 (t)) = 0 ∧ y = b8 v) ∨ ((gA G 58 0 (t)) ≠ 0 ∧ y = b16 v) → P (some (vI 1)) (sA G 57 (t) (i) (y))) : PW l w M_X5_setItem (d + 2) 0 [some (vR 5 (0)), some (vI (t)), some (vI (i)), some (vI (v))] [] G P := by
  refine pw_iload r_5_setItem_0 rfl ?_
  refine pw_callS (av := [vI (t)]) (st := []) (ls0 := [some (vI (t))]) r_5_setItem_1 rfl rfl rfl (Nat.le_refl _) ?_
  refine sp_X5_isTable  ?_
  refine pw_if_neB r_5_setItem_4 (fun h04 => ?_) (fun h04 => ?_)
  · skip
    have ht := hts t (by omega) (by omega)
    refine pw_aload r_5_setItem_9 rfl ?_
    refine pw_getR r_5_setItem_10 fs_5_10 (by decide) ?_
    refine pw_iload r_5_setItem_13 rfl ?_
    refine pw_iald r_5_setItem_14 sh58 (by omega) (by omega) ?_
    refine pw_const r_5_setItem_15 ?_
    refine pw_icmp_ne r_5_setItem_16 (fun h16 => ?_) (fun h16 => ?_)
    · skip
      refine pw_iload r_5_setItem_22 rfl ?_
      refine pw_if_lt r_5_setItem_23 (fun h23 => ?_) (fun h23 => ?_)
      · skip
        refine pw_const r_5_setItem_36 ?_
        refine pw_iret r_5_setItem_37 rfl (Nat.le_refl _) ⟨rfl, ?_⟩
        first | exact h1 (by omega) | exact h2 (by omega) (by omega) | exact h3 (by omega) (by omega) (by omega) | exact h4 (by omega) (by omega) (by omega) _ (by first | exact Or.inl ⟨by omega, by simp only [b16_b8, b16_b16]⟩ | exact Or.inr ⟨by omega, by simp only [b16_b8, b16_b16]⟩)
      · skip
        refine pw_iload r_5_setItem_26 rfl ?_
        refine pw_aload r_5_setItem_27 rfl ?_
        refine pw_getR r_5_setItem_28 fs_5_11 (by decide) ?_
        refine pw_iload r_5_setItem_31 rfl ?_
        refine pw_iald r_5_setItem_32 sh59 (by omega) (by omega) ?_
        refine pw_icmp_lt r_5_setItem_33 (fun h33 => ?_) (fun h33 => ?_)
        · skip
          refine pw_aload r_5_setItem_38 rfl ?_
          refine pw_getR r_5_setItem_39 fs_5_9 (by decide) ?_
          refine pw_iload r_5_setItem_42 rfl ?_
          refine pw_aaldS r_5_setItem_43 sh56 (by decide) (by decide) aS56 rw57 (by omega) (by omega) ?_
          refine pw_iload r_5_setItem_44 rfl ?_
          refine pw_aload r_5_setItem_45 rfl ?_
          refine pw_getR r_5_setItem_46 fs_5_10 (by decide) ?_
          refine pw_iload r_5_setItem_49 rfl ?_
          refine pw_iald r_5_setItem_50 sh58 (by omega) (by omega) ?_
          refine pw_if_ne r_5_setItem_51 (fun h51 => ?_) (fun h51 => ?_)
          · skip
            refine pw_iload r_5_setItem_60 rfl ?_
            refine pw_i2s r_5_setItem_61 ?_
            refine pw_sast r_5_setItem_62 sh57 (by omega) (by omega) ?_
            refine pw_const r_5_setItem_63 ?_
            refine pw_iret r_5_setItem_64 rfl (Nat.le_refl _) ⟨rfl, ?_⟩
            first | exact h1 (by omega) | exact h2 (by omega) (by omega) | exact h3 (by omega) (by omega) (by omega) | exact h4 (by omega) (by omega) (by omega) _ (by first | exact Or.inl ⟨by omega, by simp only [b16_b8, b16_b16]⟩ | exact Or.inr ⟨by omega, by simp only [b16_b8, b16_b16]⟩)
          · skip
            refine pw_iload r_5_setItem_54 rfl ?_
            refine pw_i2b r_5_setItem_55 ?_
            refine pw_i2s r_5_setItem_56 ?_
            refine pw_goto r_5_setItem_57 ?_
            refine pw_sast r_5_setItem_62 sh57 (by omega) (by omega) ?_
            refine pw_const r_5_setItem_63 ?_
            refine pw_iret r_5_setItem_64 rfl (Nat.le_refl _) ⟨rfl, ?_⟩
            first | exact h1 (by omega) | exact h2 (by omega) (by omega) | exact h3 (by omega) (by omega) (by omega) | exact h4 (by omega) (by omega) (by omega) _ (by first | exact Or.inl ⟨by omega, by simp only [b16_b8, b16_b16]⟩ | exact Or.inr ⟨by omega, by simp only [b16_b8, b16_b16]⟩)
        · skip
          refine pw_const r_5_setItem_36 ?_
          refine pw_iret r_5_setItem_37 rfl (Nat.le_refl _) ⟨rfl, ?_⟩
          first | exact h1 (by omega) | exact h2 (by omega) (by omega) | exact h3 (by omega) (by omega) (by omega) | exact h4 (by omega) (by omega) (by omega) _ (by first | exact Or.inl ⟨by omega, by simp only [b16_b8, b16_b16]⟩ | exact Or.inr ⟨by omega, by simp only [b16_b8, b16_b16]⟩)
    · skip
      refine pw_const r_5_setItem_19 ?_
      refine pw_iret r_5_setItem_21 rfl (Nat.le_refl _) ⟨rfl, ?_⟩
      first | exact h1 (by omega) | exact h2 (by omega) (by omega) | exact h3 (by omega) (by omega) (by omega) | exact h4 (by omega) (by omega) (by omega) _ (by first | exact Or.inl ⟨by omega, by simp only [b16_b8, b16_b16]⟩ | exact Or.inr ⟨by omega, by simp only [b16_b8, b16_b16]⟩)
  · skip
    refine pw_const r_5_setItem_7 ?_
    refine pw_iret r_5_setItem_8 rfl (Nat.le_refl _) ⟨rfl, ?_⟩
    first | exact h1 (by omega) | exact h2 (by omega) (by omega) | exact h3 (by omega) (by omega) (by omega) | exact h4 (by omega) (by omega) (by omega) _ (by first | exact Or.inl ⟨by omega, by simp only [b16_b8, b16_b16]⟩ | exact Or.inr ⟨by omega, by simp only [b16_b8, b16_b16]⟩)
set_option maxRecDepth 10000 in
theorem sp_X12_item {l : Launch} {w : Wo} {d : Nat} {G : PH} {P : Option PV → PH → Prop} {t i v : Int} (hts : ∀ t, 0 ≤ t → t < 4 → (-1 ≤ (gA G 270 0 (t)) ∧ (gA G 270 0 (t)) ≤ 1) ∧ 0 ≤ (gA G 271 0 (t)) ∧ (gA G 271 0 (t)) ≤ 60) (h1 : ¬ (0 ≤ t ∧ t ≤ 3) → P (some (vI (-1))) G) (h2 : (0 ≤ t ∧ t ≤ 3) → ((gA G 270 0 (t)) = -1) → P (some (vI (-5))) G) (h3 : (0 ≤ t ∧ t ≤ 3) → ((gA G 270 0 (t)) ≠ -1) → (¬ (0 ≤ i ∧ i < (gA G 271 0 (t)))) → P (some (vI (-1))) G) (h4 : (0 ≤ t ∧ t ≤ 3) → ((gA G 270 0 (t)) ≠ -1) → (0 ≤ i ∧ i < (gA G 271 0 (t))) → ∀ y, ((gA G 270 0 (t)) = 0 ∧ y = b8 v) ∨ ((gA G 270 0 (t)) ≠ 0 ∧ y = b16 v) → P (some (vI 1)) (sA G 272 0 (60 * t + i) (y))) : PW l w M_X12_item (d + 2) 0 [some (vR 12 (0)), some (vI (t)), some (vI (i)), some (vI (v))] [] G P := by
  refine pw_iload r_12_item_0 rfl ?_
  refine pw_callS (av := [vI (t)]) (st := []) (ls0 := [some (vI (t))]) r_12_item_1 rfl rfl rfl (Nat.le_refl _) ?_
  refine sp_X12_isTable  ?_
  refine pw_if_neB r_12_item_4 (fun h04 => ?_) (fun h04 => ?_)
  · skip
    have ht := hts t (by omega) (by omega)
    refine pw_aload r_12_item_9 rfl ?_
    refine pw_getR r_12_item_10 fs_12_106 (by decide) ?_
    refine pw_iload r_12_item_13 rfl ?_
    refine pw_iald r_12_item_14 sh270 (by omega) (by omega) ?_
    refine pw_if_ge r_12_item_15 (fun h15 => ?_) (fun h15 => ?_)
    · skip
      refine pw_iload r_12_item_21 rfl ?_
      refine pw_if_lt r_12_item_22 (fun h22 => ?_) (fun h22 => ?_)
      · skip
        refine pw_const r_12_item_35 ?_
        refine pw_iret r_12_item_36 rfl (Nat.le_refl _) ⟨rfl, ?_⟩
        first | exact h1 (by omega) | exact h2 (by omega) (by omega) | exact h3 (by omega) (by omega) (by omega) | exact h4 (by omega) (by omega) (by omega) _ (by first | exact Or.inl ⟨by omega, rfl⟩ | exact Or.inr ⟨by omega, rfl⟩)
      · skip
        refine pw_iload r_12_item_25 rfl ?_
        refine pw_aload r_12_item_26 rfl ?_
        refine pw_getR r_12_item_27 fs_12_107 (by decide) ?_
        refine pw_iload r_12_item_30 rfl ?_
        refine pw_iald r_12_item_31 sh271 (by omega) (by omega) ?_
        refine pw_icmp_lt r_12_item_32 (fun h32 => ?_) (fun h32 => ?_)
        · skip
          refine pw_aload r_12_item_37 rfl ?_
          refine pw_getR r_12_item_38 fs_12_108 (by decide) ?_
          refine pw_const r_12_item_41 ?_
          refine pw_iload r_12_item_43 rfl ?_
          refine pw_imul r_12_item_44 (by omega) ?_
          refine pw_iload r_12_item_45 rfl ?_
          refine pw_iadd r_12_item_46 (by omega) ?_
          refine pw_aload r_12_item_47 rfl ?_
          refine pw_getR r_12_item_48 fs_12_106 (by decide) ?_
          refine pw_iload r_12_item_51 rfl ?_
          refine pw_iald r_12_item_52 sh270 (by omega) (by omega) ?_
          refine pw_if_ne r_12_item_53 (fun h53 => ?_) (fun h53 => ?_)
          · skip
            refine pw_iload r_12_item_61 rfl ?_
            refine pw_i2s r_12_item_62 ?_
            refine pw_iast r_12_item_63 sh272 (by omega) (by omega) ?_
            refine pw_const r_12_item_64 ?_
            refine pw_iret r_12_item_65 rfl (Nat.le_refl _) ⟨rfl, ?_⟩
            first | exact h1 (by omega) | exact h2 (by omega) (by omega) | exact h3 (by omega) (by omega) (by omega) | exact h4 (by omega) (by omega) (by omega) _ (by first | exact Or.inl ⟨by omega, rfl⟩ | exact Or.inr ⟨by omega, rfl⟩)
          · skip
            refine pw_iload r_12_item_56 rfl ?_
            refine pw_i2b r_12_item_57 ?_
            refine pw_goto r_12_item_58 ?_
            refine pw_iast r_12_item_63 sh272 (by omega) (by omega) ?_
            refine pw_const r_12_item_64 ?_
            refine pw_iret r_12_item_65 rfl (Nat.le_refl _) ⟨rfl, ?_⟩
            first | exact h1 (by omega) | exact h2 (by omega) (by omega) | exact h3 (by omega) (by omega) (by omega) | exact h4 (by omega) (by omega) (by omega) _ (by first | exact Or.inl ⟨by omega, rfl⟩ | exact Or.inr ⟨by omega, rfl⟩)
        · skip
          refine pw_const r_12_item_35 ?_
          refine pw_iret r_12_item_36 rfl (Nat.le_refl _) ⟨rfl, ?_⟩
          first | exact h1 (by omega) | exact h2 (by omega) (by omega) | exact h3 (by omega) (by omega) (by omega) | exact h4 (by omega) (by omega) (by omega) _ (by first | exact Or.inl ⟨by omega, rfl⟩ | exact Or.inr ⟨by omega, rfl⟩)
    · skip
      refine pw_const r_12_item_18 ?_
      refine pw_iret r_12_item_20 rfl (Nat.le_refl _) ⟨rfl, ?_⟩
      first | exact h1 (by omega) | exact h2 (by omega) (by omega) | exact h3 (by omega) (by omega) (by omega) | exact h4 (by omega) (by omega) (by omega) _ (by first | exact Or.inl ⟨by omega, rfl⟩ | exact Or.inr ⟨by omega, rfl⟩)
  · skip
    refine pw_const r_12_item_7 ?_
    refine pw_iret r_12_item_8 rfl (Nat.le_refl _) ⟨rfl, ?_⟩
    first | exact h1 (by omega) | exact h2 (by omega) (by omega) | exact h3 (by omega) (by omega) (by omega) | exact h4 (by omega) (by omega) (by omega) _ (by first | exact Or.inl ⟨by omega, rfl⟩ | exact Or.inr ⟨by omega, rfl⟩)
set_option maxRecDepth 10000 in
theorem sp_X5_tellItem {l : Launch} {w : Wo} {d : Nat} {G : PH} {P : Option PV → PH → Prop} {t i : Int} (hts : ∀ t, 0 ≤ t → t < 4 → (-1 ≤ (gA G 58 0 (t)) ∧ (gA G 58 0 (t)) ≤ 1) ∧ 0 ≤ (gA G 59 0 (t)) ∧ (gA G 59 0 (t)) ≤ 60) (h1 : ¬ ((0 ≤ t ∧ t ≤ 3) ∧ 0 ≤ i ∧ i < (gA G 59 0 (t))) → P (some (vI (-2000000000))) G) (h2 : ((0 ≤ t ∧ t ≤ 3) ∧ 0 ≤ i ∧ i < (gA G 59 0 (t))) → P (some (vI (gA G 57 (t) (i)))) G) : PW l w M_X5_tellItem (d + 2) 0 [some (vR 5 (0)), some (vI (t)), some (vI (i))] [] G P := by
  refine pw_iload r_5_tellItem_0 rfl ?_
  refine pw_callS (av := [vI (t)]) (st := []) (ls0 := [some (vI (t))]) r_5_tellItem_1 rfl rfl rfl (Nat.le_refl _) ?_
  refine sp_X5_isTable  ?_
  refine pw_if_eqB r_5_tellItem_4 (fun h04 => ?_) (fun h04 => ?_)
  · skip
    refine pw_const r_5_tellItem_21 ?_
    refine pw_iret r_5_tellItem_23 rfl (Nat.le_refl _) ⟨rfl, ?_⟩
    first | exact h1 (by omega) | exact h2 (by omega)
  · skip
    have ht := hts t (by omega) (by omega)
    refine pw_iload r_5_tellItem_7 rfl ?_
    refine pw_if_lt r_5_tellItem_8 (fun h08 => ?_) (fun h08 => ?_)
    · skip
      refine pw_const r_5_tellItem_21 ?_
      refine pw_iret r_5_tellItem_23 rfl (Nat.le_refl _) ⟨rfl, ?_⟩
      first | exact h1 (by omega) | exact h2 (by omega)
    · skip
      refine pw_iload r_5_tellItem_11 rfl ?_
      refine pw_aload r_5_tellItem_12 rfl ?_
      refine pw_getR r_5_tellItem_13 fs_5_11 (by decide) ?_
      refine pw_iload r_5_tellItem_16 rfl ?_
      refine pw_iald r_5_tellItem_17 sh59 (by omega) (by omega) ?_
      refine pw_icmp_lt r_5_tellItem_18 (fun h18 => ?_) (fun h18 => ?_)
      · skip
        refine pw_aload r_5_tellItem_24 rfl ?_
        refine pw_getR r_5_tellItem_25 fs_5_9 (by decide) ?_
        refine pw_iload r_5_tellItem_28 rfl ?_
        refine pw_aaldS r_5_tellItem_29 sh56 (by decide) (by decide) aS56 rw57 (by omega) (by omega) ?_
        refine pw_iload r_5_tellItem_30 rfl ?_
        refine pw_sald r_5_tellItem_31 sh57 (by omega) (by omega) ?_
        refine pw_iret r_5_tellItem_32 rfl (Nat.le_refl _) ⟨rfl, ?_⟩
        first | exact h1 (by omega) | exact h2 (by omega)
      · skip
        refine pw_const r_5_tellItem_21 ?_
        refine pw_iret r_5_tellItem_23 rfl (Nat.le_refl _) ⟨rfl, ?_⟩
        first | exact h1 (by omega) | exact h2 (by omega)
set_option maxRecDepth 10000 in
theorem sp_X12_read {l : Launch} {w : Wo} {d : Nat} {G : PH} {P : Option PV → PH → Prop} {t i : Int} (hts : ∀ t, 0 ≤ t → t < 4 → (-1 ≤ (gA G 270 0 (t)) ∧ (gA G 270 0 (t)) ≤ 1) ∧ 0 ≤ (gA G 271 0 (t)) ∧ (gA G 271 0 (t)) ≤ 60) (h1 : ¬ ((0 ≤ t ∧ t ≤ 3) ∧ 0 ≤ i ∧ i < (gA G 271 0 (t))) → P (some (vI (-2000000000))) G) (h2 : ((0 ≤ t ∧ t ≤ 3) ∧ 0 ≤ i ∧ i < (gA G 271 0 (t))) → P (some (vI (gA G 272 0 (60 * t + i)))) G) : PW l w M_X12_read (d + 2) 0 [some (vR 12 (0)), some (vI (t)), some (vI (i))] [] G P := by
  refine pw_iload r_12_read_0 rfl ?_
  refine pw_callS (av := [vI (t)]) (st := []) (ls0 := [some (vI (t))]) r_12_read_1 rfl rfl rfl (Nat.le_refl _) ?_
  refine sp_X12_isTable  ?_
  refine pw_if_eqB r_12_read_4 (fun h04 => ?_) (fun h04 => ?_)
  · skip
    refine pw_const r_12_read_35 ?_
    refine pw_iret r_12_read_38 rfl (Nat.le_refl _) ⟨rfl, ?_⟩
    first | exact h1 (by omega) | exact h2 (by omega)
  · skip
    have ht := hts t (by omega) (by omega)
    refine pw_iload r_12_read_7 rfl ?_
    refine pw_if_lt r_12_read_8 (fun h08 => ?_) (fun h08 => ?_)
    · skip
      refine pw_const r_12_read_35 ?_
      refine pw_iret r_12_read_38 rfl (Nat.le_refl _) ⟨rfl, ?_⟩
      first | exact h1 (by omega) | exact h2 (by omega)
    · skip
      refine pw_iload r_12_read_11 rfl ?_
      refine pw_aload r_12_read_12 rfl ?_
      refine pw_getR r_12_read_13 fs_12_107 (by decide) ?_
      refine pw_iload r_12_read_16 rfl ?_
      refine pw_iald r_12_read_17 sh271 (by omega) (by omega) ?_
      refine pw_icmp_ge r_12_read_18 (fun h18 => ?_) (fun h18 => ?_)
      · skip
        refine pw_const r_12_read_35 ?_
        refine pw_iret r_12_read_38 rfl (Nat.le_refl _) ⟨rfl, ?_⟩
        first | exact h1 (by omega) | exact h2 (by omega)
      · skip
        refine pw_aload r_12_read_21 rfl ?_
        refine pw_getR r_12_read_22 fs_12_108 (by decide) ?_
        refine pw_const r_12_read_25 ?_
        refine pw_iload r_12_read_27 rfl ?_
        refine pw_imul r_12_read_28 (by omega) ?_
        refine pw_iload r_12_read_29 rfl ?_
        refine pw_iadd r_12_read_30 (by omega) ?_
        refine pw_iald r_12_read_31 sh272 (by omega) (by omega) ?_
        refine pw_goto r_12_read_32 ?_
        refine pw_iret r_12_read_38 rfl (Nat.le_refl _) ⟨rfl, ?_⟩
        first | exact h1 (by omega) | exact h2 (by omega)
set_option maxRecDepth 10000 in
theorem sp_X5_setBlank {l : Launch} {w : Wo} {d : Nat} {G : PH} {P : Option PV → PH → Prop} {v : Int} (hP : P (some (vI (gF G 5 0 12))) (sF G 5 0 12 (v))) : PW l w M_X5_setBlank (d + 0) 0 [some (vR 5 (0)), some (vI (v)), none] [] G P := by
  refine pw_aload r_5_setBlank_0 rfl ?_
  refine pw_getI r_5_setBlank_1 fs_5_12 (by decide) ?_
  refine pw_istore (ls' := [some (vR 5 (0)), some (vI (v)), some (vI (gF G 5 (0) 12))]) r_5_setBlank_4 rfl rfl ?_
  refine pw_aload r_5_setBlank_5 rfl ?_
  refine pw_iload r_5_setBlank_6 rfl ?_
  refine pw_putI r_5_setBlank_7 (by decide +kernel) fs_5_12 (by decide) ?_
  refine pw_iload r_5_setBlank_10 rfl ?_
  refine pw_iret r_5_setBlank_11 rfl (Nat.le_refl _) ⟨rfl, ?_⟩
  exact pe hP (by first | rfl | omega | exact (b2i_t (by omega)).symm | exact (b2i_f (by omega)).symm)
set_option maxRecDepth 10000 in
theorem sp_X12_blank {l : Launch} {w : Wo} {d : Nat} {G : PH} {P : Option PV → PH → Prop} {v : Int} (hP : P (some (vI (gF G 12 0 57))) (sF G 12 0 57 (v))) : PW l w M_X12_blank (d + 0) 0 [some (vR 12 (0)), some (vI (v)), none] [] G P := by
  refine pw_aload r_12_blank_0 rfl ?_
  refine pw_getI r_12_blank_1 fs_12_57 (by decide) ?_
  refine pw_istore (ls' := [some (vR 12 (0)), some (vI (v)), some (vI (gF G 12 (0) 57))]) r_12_blank_4 rfl rfl ?_
  refine pw_aload r_12_blank_5 rfl ?_
  refine pw_iload r_12_blank_6 rfl ?_
  refine pw_putI r_12_blank_7 (by decide +kernel) fs_12_57 (by decide) ?_
  refine pw_iload r_12_blank_10 rfl ?_
  refine pw_iret r_12_blank_11 rfl (Nat.le_refl _) ⟨rfl, ?_⟩
  exact pe hP (by first | rfl | omega | exact (b2i_t (by omega)).symm | exact (b2i_f (by omega)).symm)
set_option maxRecDepth 10000 in
theorem sp_X5_setCanBe {l : Launch} {w : Wo} {d : Nat} {G : PH} {P : Option PV → PH → Prop} {x y s : Int} (h1 : ¬ ((1 ≤ x ∧ x ≤ 26) ∧ (1 ≤ y ∧ y ≤ 26) ∧ 0 ≤ s ∧ s ≤ 1) → P (some (vI (-1))) G) (h2 : ((1 ≤ x ∧ x ≤ 26) ∧ (1 ≤ y ∧ y ≤ 26) ∧ 0 ≤ s ∧ s ≤ 1) → ∀ r, ((gA G 53 0 (x * 28 + y)) = 0 ∧ r = 0) ∨ ((gA G 53 0 (x * 28 + y)) ≠ 0 ∧ r = 1) → P (some (vI r)) (sA G 53 0 (x * 28 + y) (s))) : PW l w M_X5_setCanBe (d + 1) 0 [some (vR 5 (0)), some (vI (x)), some (vI (y)), some (vI (s)), none] [] G P := by
  refine pw_iload r_5_setCanBe_0 rfl ?_
  refine pw_const r_5_setCanBe_1 ?_
  refine pw_const r_5_setCanBe_2 ?_
  refine pw_callS (av := [vI (x), vI (1), vI (26)]) (st := []) (ls0 := [some (vI (x)), some (vI (1)), some (vI (26))]) r_5_setCanBe_4 rfl rfl rfl (Nat.le_refl _) ?_
  refine sp_X11_within  ?_
  refine pw_if_eqB r_5_setCanBe_7 (fun h07 => ?_) (fun h07 => ?_)
  · skip
    refine pw_const r_5_setCanBe_29 ?_
    refine pw_iret r_5_setCanBe_30 rfl (Nat.le_refl _) ⟨rfl, ?_⟩
    exact h1 (by omega)
  · skip
    refine pw_iload r_5_setCanBe_10 rfl ?_
    refine pw_const r_5_setCanBe_11 ?_
    refine pw_const r_5_setCanBe_12 ?_
    refine pw_callS (av := [vI (y), vI (1), vI (26)]) (st := []) (ls0 := [some (vI (y)), some (vI (1)), some (vI (26))]) r_5_setCanBe_14 rfl rfl rfl (Nat.le_refl _) ?_
    refine sp_X11_within  ?_
    refine pw_if_eqB r_5_setCanBe_17 (fun h17 => ?_) (fun h17 => ?_)
    · skip
      refine pw_const r_5_setCanBe_29 ?_
      refine pw_iret r_5_setCanBe_30 rfl (Nat.le_refl _) ⟨rfl, ?_⟩
      exact h1 (by omega)
    · skip
      refine pw_iload r_5_setCanBe_20 rfl ?_
      refine pw_const r_5_setCanBe_21 ?_
      refine pw_const r_5_setCanBe_22 ?_
      refine pw_callS (av := [vI (s), vI (0), vI (1)]) (st := []) (ls0 := [some (vI (s)), some (vI (0)), some (vI (1))]) r_5_setCanBe_23 rfl rfl rfl (Nat.le_refl _) ?_
      refine sp_X11_within  ?_
      refine pw_if_neB r_5_setCanBe_26 (fun h26 => ?_) (fun h26 => ?_)
      · skip
        refine pw_aload r_5_setCanBe_31 rfl ?_
        refine pw_getR r_5_setCanBe_32 fs_5_6 (by decide) ?_
        refine pw_iload r_5_setCanBe_35 rfl ?_
        refine pw_const r_5_setCanBe_36 ?_
        refine pw_imul r_5_setCanBe_38 (by omega) ?_
        refine pw_iload r_5_setCanBe_39 rfl ?_
        refine pw_iadd r_5_setCanBe_40 (by omega) ?_
        refine pw_zald r_5_setCanBe_41 sh53 (by omega) (by omega) ?_
        refine pw_if_eq r_5_setCanBe_42 (fun h42 => ?_) (fun h42 => ?_)
        · skip
          refine pw_const r_5_setCanBe_49 ?_
          refine pw_istore (ls' := [some (vR 5 (0)), some (vI (x)), some (vI (y)), some (vI (s)), some (vI (0))]) r_5_setCanBe_50 rfl rfl ?_
          refine pw_aload r_5_setCanBe_52 rfl ?_
          refine pw_getR r_5_setCanBe_53 fs_5_6 (by decide) ?_
          refine pw_iload r_5_setCanBe_56 rfl ?_
          refine pw_const r_5_setCanBe_57 ?_
          refine pw_imul r_5_setCanBe_59 (by omega) ?_
          refine pw_iload r_5_setCanBe_60 rfl ?_
          refine pw_iadd r_5_setCanBe_61 (by omega) ?_
          refine pw_iload r_5_setCanBe_62 rfl ?_
          refine pw_const r_5_setCanBe_63 ?_
          refine pw_icmp_ne r_5_setCanBe_64 (fun h64 => ?_) (fun h64 => ?_)
          · skip
            refine pw_const r_5_setCanBe_71 ?_
            refine pw_zast r_5_setCanBe_72 sh53 (by omega) (by omega) (by omega) ?_
            refine pw_iload r_5_setCanBe_73 rfl ?_
            refine pw_iret r_5_setCanBe_75 rfl (Nat.le_refl _) ⟨rfl, ?_⟩
            have es : s = 0 := by omega
            subst es
            exact h2 (by omega) _ (by omega)
          · skip
            refine pw_const r_5_setCanBe_67 ?_
            refine pw_goto r_5_setCanBe_68 ?_
            refine pw_zast r_5_setCanBe_72 sh53 (by omega) (by omega) (by omega) ?_
            refine pw_iload r_5_setCanBe_73 rfl ?_
            refine pw_iret r_5_setCanBe_75 rfl (Nat.le_refl _) ⟨rfl, ?_⟩
            have es : s = 1 := by omega
            subst es
            exact h2 (by omega) _ (by omega)
        · skip
          refine pw_const r_5_setCanBe_45 ?_
          refine pw_goto r_5_setCanBe_46 ?_
          refine pw_istore (ls' := [some (vR 5 (0)), some (vI (x)), some (vI (y)), some (vI (s)), some (vI (1))]) r_5_setCanBe_50 rfl rfl ?_
          refine pw_aload r_5_setCanBe_52 rfl ?_
          refine pw_getR r_5_setCanBe_53 fs_5_6 (by decide) ?_
          refine pw_iload r_5_setCanBe_56 rfl ?_
          refine pw_const r_5_setCanBe_57 ?_
          refine pw_imul r_5_setCanBe_59 (by omega) ?_
          refine pw_iload r_5_setCanBe_60 rfl ?_
          refine pw_iadd r_5_setCanBe_61 (by omega) ?_
          refine pw_iload r_5_setCanBe_62 rfl ?_
          refine pw_const r_5_setCanBe_63 ?_
          refine pw_icmp_ne r_5_setCanBe_64 (fun h64 => ?_) (fun h64 => ?_)
          · skip
            refine pw_const r_5_setCanBe_71 ?_
            refine pw_zast r_5_setCanBe_72 sh53 (by omega) (by omega) (by omega) ?_
            refine pw_iload r_5_setCanBe_73 rfl ?_
            refine pw_iret r_5_setCanBe_75 rfl (Nat.le_refl _) ⟨rfl, ?_⟩
            have es : s = 0 := by omega
            subst es
            exact h2 (by omega) _ (by omega)
          · skip
            refine pw_const r_5_setCanBe_67 ?_
            refine pw_goto r_5_setCanBe_68 ?_
            refine pw_zast r_5_setCanBe_72 sh53 (by omega) (by omega) (by omega) ?_
            refine pw_iload r_5_setCanBe_73 rfl ?_
            refine pw_iret r_5_setCanBe_75 rfl (Nat.le_refl _) ⟨rfl, ?_⟩
            have es : s = 1 := by omega
            subst es
            exact h2 (by omega) _ (by omega)
      · skip
        refine pw_const r_5_setCanBe_29 ?_
        refine pw_iret r_5_setCanBe_30 rfl (Nat.le_refl _) ⟨rfl, ?_⟩
        exact h1 (by omega)
set_option maxRecDepth 10000 in
theorem sp_X12_canBe {l : Launch} {w : Wo} {d : Nat} {G : PH} {P : Option PV → PH → Prop} {x y s : Int} (h1 : ¬ ((1 ≤ x ∧ x ≤ 26) ∧ (1 ≤ y ∧ y ≤ 26) ∧ 0 ≤ s ∧ s ≤ 1) → P (some (vI (-1))) G) (h2 : ((1 ≤ x ∧ x ≤ 26) ∧ (1 ≤ y ∧ y ≤ 26) ∧ 0 ≤ s ∧ s ≤ 1) → ∀ r, ((gA G 240 0 (27 * x + y)) = 0 ∧ r = 0) ∨ ((gA G 240 0 (27 * x + y)) ≠ 0 ∧ r = 1) → P (some (vI r)) (sA G 240 0 (27 * x + y) (s))) : PW l w M_X12_canBe (d + 1) 0 [some (vR 12 (0)), some (vI (x)), some (vI (y)), some (vI (s)), none] [] G P := by
  refine pw_iload r_12_canBe_0 rfl ?_
  refine pw_const r_12_canBe_1 ?_
  refine pw_const r_12_canBe_2 ?_
  refine pw_callS (av := [vI (x), vI (1), vI (26)]) (st := []) (ls0 := [some (vI (x)), some (vI (1)), some (vI (26))]) r_12_canBe_4 rfl rfl rfl (Nat.le_refl _) ?_
  refine sp_X12_within  ?_
  refine pw_if_eqB r_12_canBe_7 (fun h07 => ?_) (fun h07 => ?_)
  · skip
    refine pw_const r_12_canBe_29 ?_
    refine pw_iret r_12_canBe_30 rfl (Nat.le_refl _) ⟨rfl, ?_⟩
    exact h1 (by omega)
  · skip
    refine pw_iload r_12_canBe_10 rfl ?_
    refine pw_const r_12_canBe_11 ?_
    refine pw_const r_12_canBe_12 ?_
    refine pw_callS (av := [vI (y), vI (1), vI (26)]) (st := []) (ls0 := [some (vI (y)), some (vI (1)), some (vI (26))]) r_12_canBe_14 rfl rfl rfl (Nat.le_refl _) ?_
    refine sp_X12_within  ?_
    refine pw_if_eqB r_12_canBe_17 (fun h17 => ?_) (fun h17 => ?_)
    · skip
      refine pw_const r_12_canBe_29 ?_
      refine pw_iret r_12_canBe_30 rfl (Nat.le_refl _) ⟨rfl, ?_⟩
      exact h1 (by omega)
    · skip
      refine pw_iload r_12_canBe_20 rfl ?_
      refine pw_const r_12_canBe_21 ?_
      refine pw_const r_12_canBe_22 ?_
      refine pw_callS (av := [vI (s), vI (0), vI (1)]) (st := []) (ls0 := [some (vI (s)), some (vI (0)), some (vI (1))]) r_12_canBe_23 rfl rfl rfl (Nat.le_refl _) ?_
      refine sp_X12_within  ?_
      refine pw_if_neB r_12_canBe_26 (fun h26 => ?_) (fun h26 => ?_)
      · skip
        refine pw_aload r_12_canBe_31 rfl ?_
        refine pw_getR r_12_canBe_32 fs_12_56 (by decide) ?_
        refine pw_const r_12_canBe_35 ?_
        refine pw_iload r_12_canBe_37 rfl ?_
        refine pw_imul r_12_canBe_38 (by omega) ?_
        refine pw_iload r_12_canBe_39 rfl ?_
        refine pw_iadd r_12_canBe_40 (by omega) ?_
        refine pw_zald r_12_canBe_41 sh240 (by omega) (by omega) ?_
        refine pw_istore (ls' := [some (vR 12 (0)), some (vI (x)), some (vI (y)), some (vI (s)), some (vI (gA G 240 (0) (((27 * x) + y))))]) r_12_canBe_42 rfl rfl ?_
        refine pw_aload r_12_canBe_44 rfl ?_
        refine pw_getR r_12_canBe_45 fs_12_56 (by decide) ?_
        refine pw_const r_12_canBe_48 ?_
        refine pw_iload r_12_canBe_50 rfl ?_
        refine pw_imul r_12_canBe_51 (by omega) ?_
        refine pw_iload r_12_canBe_52 rfl ?_
        refine pw_iadd r_12_canBe_53 (by omega) ?_
        refine pw_iload r_12_canBe_54 rfl ?_
        refine pw_const r_12_canBe_55 ?_
        refine pw_icmp_ne r_12_canBe_56 (fun h56 => ?_) (fun h56 => ?_)
        · skip
          refine pw_const r_12_canBe_63 ?_
          refine pw_zast r_12_canBe_64 sh240 (by omega) (by omega) (by omega) ?_
          refine pw_iload r_12_canBe_65 rfl ?_
          refine pw_if_eq r_12_canBe_67 (fun h67 => ?_) (fun h67 => ?_)
          · skip
            refine pw_const r_12_canBe_74 ?_
            refine pw_iret r_12_canBe_75 rfl (Nat.le_refl _) ⟨rfl, ?_⟩
            have es : s = 0 := by omega
            subst es
            exact h2 (by omega) _ (by omega)
          · skip
            refine pw_const r_12_canBe_70 ?_
            refine pw_goto r_12_canBe_71 ?_
            refine pw_iret r_12_canBe_75 rfl (Nat.le_refl _) ⟨rfl, ?_⟩
            have es : s = 0 := by omega
            subst es
            exact h2 (by omega) _ (by omega)
        · skip
          refine pw_const r_12_canBe_59 ?_
          refine pw_goto r_12_canBe_60 ?_
          refine pw_zast r_12_canBe_64 sh240 (by omega) (by omega) (by omega) ?_
          refine pw_iload r_12_canBe_65 rfl ?_
          refine pw_if_eq r_12_canBe_67 (fun h67 => ?_) (fun h67 => ?_)
          · skip
            refine pw_const r_12_canBe_74 ?_
            refine pw_iret r_12_canBe_75 rfl (Nat.le_refl _) ⟨rfl, ?_⟩
            have es : s = 1 := by omega
            subst es
            exact h2 (by omega) _ (by omega)
          · skip
            refine pw_const r_12_canBe_70 ?_
            refine pw_goto r_12_canBe_71 ?_
            refine pw_iret r_12_canBe_75 rfl (Nat.le_refl _) ⟨rfl, ?_⟩
            have es : s = 1 := by omega
            subst es
            exact h2 (by omega) _ (by omega)
      · skip
        refine pw_const r_12_canBe_29 ?_
        refine pw_iret r_12_canBe_30 rfl (Nat.le_refl _) ⟨rfl, ?_⟩
        exact h1 (by omega)
set_option maxRecDepth 10000 in
theorem sp_X11_table {l : Launch} {w : Wo} {d : Nat} {G : PH} {P : Option PV → PH → Prop} {t s n : Int} (h1 : ¬ ((0 ≤ t ∧ t ≤ 3) ∧ (-1 ≤ s ∧ s ≤ 1) ∧ (s = -1 ∨ (0 ≤ n ∧ n ≤ 60))) → P (some (vI (-1))) G) (h2 : ((0 ≤ t ∧ t ≤ 3) ∧ (-1 ≤ s ∧ s ≤ 1) ∧ (s = -1 ∨ (0 ≤ n ∧ n ≤ 60))) → ∀ nn, ((s = -1 ∧ nn = 0) ∨ (s ≠ -1 ∧ nn = n)) → P (some (vI 1)) (uA (sA (sA G 58 0 (t) (s)) 59 0 (t) (nn)) 57 (t) (filF (fun _ => True) (fun _ => 0) (gA G 57 t) (60)))) : PW l w M_X11_table (d + 3) 0 [some (vR 11 (0)), some (vI (t)), some (vI (s)), some (vI (n))] [] G P := by
  refine pw_aload r_11_table_0 rfl ?_
  refine pw_getR r_11_table_1 fs_11_4 (by decide) ?_
  refine pw_iload r_11_table_4 rfl ?_
  refine pw_iload r_11_table_5 rfl ?_
  refine pw_iload r_11_table_6 rfl ?_
  refine pw_callV (av := [vI (t), vI (s), vI (n)]) (st := []) (ls0 := [some (vR 5 (0)), some (vI (t)), some (vI (s)), some (vI (n)), none]) r_11_table_7 rfl rfl rfl (Nat.le_refl _) ?_
  refine sp_X5_setTable  ?_ ?_
  · skip
    intro q1
    refine pw_iret r_11_table_10 rfl (Nat.le_refl _) ⟨rfl, ?_⟩
    exact h1 q1
  · skip
    intro q1 nn q2
    refine pw_iret r_11_table_10 rfl (Nat.le_refl _) ⟨rfl, ?_⟩
    exact h2 q1 nn q2
set_option maxRecDepth 10000 in
theorem sp_X11_item {l : Launch} {w : Wo} {d : Nat} {G : PH} {P : Option PV → PH → Prop} {t i v : Int} (hts : ∀ t, 0 ≤ t → t < 4 → (-1 ≤ (gA G 58 0 (t)) ∧ (gA G 58 0 (t)) ≤ 1) ∧ 0 ≤ (gA G 59 0 (t)) ∧ (gA G 59 0 (t)) ≤ 60) (h1 : ¬ (0 ≤ t ∧ t ≤ 3) → P (some (vI (-1))) G) (h2 : (0 ≤ t ∧ t ≤ 3) → ((gA G 58 0 (t)) = -1) → P (some (vI (-5))) G) (h3 : (0 ≤ t ∧ t ≤ 3) → ((gA G 58 0 (t)) ≠ -1) → (¬ (0 ≤ i ∧ i < (gA G 59 0 (t)))) → P (some (vI (-1))) G) (h4 : (0 ≤ t ∧ t ≤ 3) → ((gA G 58 0 (t)) ≠ -1) → (0 ≤ i ∧ i < (gA G 59 0 (t))) → ∀ y, ((gA G 58 0 (t)) = 0 ∧ y = b8 v) ∨ ((gA G 58 0 (t)) ≠ 0 ∧ y = b16 v) → P (some (vI 1)) (sA G 57 (t) (i) (y))) : PW l w M_X11_item (d + 3) 0 [some (vR 11 (0)), some (vI (t)), some (vI (i)), some (vI (v))] [] G P := by
  refine pw_aload r_11_item_0 rfl ?_
  refine pw_getR r_11_item_1 fs_11_4 (by decide) ?_
  refine pw_iload r_11_item_4 rfl ?_
  refine pw_iload r_11_item_5 rfl ?_
  refine pw_iload r_11_item_6 rfl ?_
  refine pw_callV (av := [vI (t), vI (i), vI (v)]) (st := []) (ls0 := [some (vR 5 (0)), some (vI (t)), some (vI (i)), some (vI (v))]) r_11_item_7 rfl rfl rfl (Nat.le_refl _) ?_
  refine sp_X5_setItem (by first | assumption | exact hts | omega) ?_ ?_ ?_ ?_
  · skip
    intro q1
    refine pw_iret r_11_item_10 rfl (Nat.le_refl _) ⟨rfl, ?_⟩
    exact h1 q1
  · skip
    intro q1 q2
    refine pw_iret r_11_item_10 rfl (Nat.le_refl _) ⟨rfl, ?_⟩
    exact h2 q1 q2
  · skip
    intro q1 q2 q3
    refine pw_iret r_11_item_10 rfl (Nat.le_refl _) ⟨rfl, ?_⟩
    exact h3 q1 q2 q3
  · skip
    intro q1 q2 q3 y q4
    refine pw_iret r_11_item_10 rfl (Nat.le_refl _) ⟨rfl, ?_⟩
    exact h4 q1 q2 q3 y q4
set_option maxRecDepth 10000 in
theorem sp_X11_read {l : Launch} {w : Wo} {d : Nat} {G : PH} {P : Option PV → PH → Prop} {t i : Int} (hts : ∀ t, 0 ≤ t → t < 4 → (-1 ≤ (gA G 58 0 (t)) ∧ (gA G 58 0 (t)) ≤ 1) ∧ 0 ≤ (gA G 59 0 (t)) ∧ (gA G 59 0 (t)) ≤ 60) (h1 : ¬ ((0 ≤ t ∧ t ≤ 3) ∧ 0 ≤ i ∧ i < (gA G 59 0 (t))) → P (some (vI (-2000000000))) G) (h2 : ((0 ≤ t ∧ t ≤ 3) ∧ 0 ≤ i ∧ i < (gA G 59 0 (t))) → P (some (vI (gA G 57 (t) (i)))) G) : PW l w M_X11_read (d + 3) 0 [some (vR 11 (0)), some (vI (t)), some (vI (i))] [] G P := by
  refine pw_aload r_11_read_0 rfl ?_
  refine pw_getR r_11_read_1 fs_11_4 (by decide) ?_
  refine pw_iload r_11_read_4 rfl ?_
  refine pw_iload r_11_read_5 rfl ?_
  refine pw_callV (av := [vI (t), vI (i)]) (st := []) (ls0 := [some (vR 5 (0)), some (vI (t)), some (vI (i))]) r_11_read_6 rfl rfl rfl (Nat.le_refl _) ?_
  refine sp_X5_tellItem (by first | assumption | exact hts | omega) ?_ ?_
  · skip
    intro q1
    refine pw_iret r_11_read_9 rfl (Nat.le_refl _) ⟨rfl, ?_⟩
    exact h1 q1
  · skip
    intro q1
    refine pw_iret r_11_read_9 rfl (Nat.le_refl _) ⟨rfl, ?_⟩
    exact h2 q1
set_option maxRecDepth 10000 in
theorem sp_X11_blank {l : Launch} {w : Wo} {d : Nat} {G : PH} {P : Option PV → PH → Prop} {v : Int} (hP : P (some (vI (gF G 5 0 12))) (sF G 5 0 12 (v))) : PW l w M_X11_blank (d + 1) 0 [some (vR 11 (0)), some (vI (v))] [] G P := by
  refine pw_aload r_11_blank_0 rfl ?_
  refine pw_getR r_11_blank_1 fs_11_4 (by decide) ?_
  refine pw_iload r_11_blank_4 rfl ?_
  refine pw_callV (av := [vI (v)]) (st := []) (ls0 := [some (vR 5 (0)), some (vI (v)), none]) r_11_blank_5 rfl rfl rfl (Nat.le_refl _) ?_
  refine sp_X5_setBlank  ?_
  refine pw_iret r_11_blank_8 rfl (Nat.le_refl _) ⟨rfl, ?_⟩
  exact hP 
set_option maxRecDepth 10000 in
theorem sp_X11_canBe {l : Launch} {w : Wo} {d : Nat} {G : PH} {P : Option PV → PH → Prop} {x y s : Int} (h1 : ¬ ((1 ≤ x ∧ x ≤ 26) ∧ (1 ≤ y ∧ y ≤ 26) ∧ 0 ≤ s ∧ s ≤ 1) → P (some (vI (-1))) G) (h2 : ((1 ≤ x ∧ x ≤ 26) ∧ (1 ≤ y ∧ y ≤ 26) ∧ 0 ≤ s ∧ s ≤ 1) → ∀ r, ((gA G 53 0 (x * 28 + y)) = 0 ∧ r = 0) ∨ ((gA G 53 0 (x * 28 + y)) ≠ 0 ∧ r = 1) → P (some (vI r)) (sA G 53 0 (x * 28 + y) (s))) : PW l w M_X11_canBe (d + 2) 0 [some (vR 11 (0)), some (vI (x)), some (vI (y)), some (vI (s))] [] G P := by
  refine pw_aload r_11_canBe_0 rfl ?_
  refine pw_getR r_11_canBe_1 fs_11_4 (by decide) ?_
  refine pw_iload r_11_canBe_4 rfl ?_
  refine pw_iload r_11_canBe_5 rfl ?_
  refine pw_iload r_11_canBe_6 rfl ?_
  refine pw_callV (av := [vI (x), vI (y), vI (s)]) (st := []) (ls0 := [some (vR 5 (0)), some (vI (x)), some (vI (y)), some (vI (s)), none]) r_11_canBe_7 rfl rfl rfl (Nat.le_refl _) ?_
  refine sp_X5_setCanBe  ?_ ?_
  · skip
    intro q1
    refine pw_iret r_11_canBe_10 rfl (Nat.le_refl _) ⟨rfl, ?_⟩
    exact h1 q1
  · skip
    intro q1 r q2
    refine pw_iret r_11_canBe_10 rfl (Nat.le_refl _) ⟨rfl, ?_⟩
    exact h2 q1 r q2
