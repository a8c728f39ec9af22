def exS (Q : Int → Prop) (set n : Int) : Prop := ∃ j, 0 ≤ j ∧ j < n ∧ bt set j ∧ Q j
section EXS
variable {Q : Int → Prop} {set n : Int}
theorem ex_0 : ¬ exS Q set 0 := fun ⟨j, a, b, _⟩ => by omega
theorem ex_t (h : 0 ≤ n) (hb : bt set n) : exS Q set (n + 1) ↔ (exS Q set n ∨ Q n) := by
  constructor
  · rintro ⟨j, a, b, c, d⟩
    by_cases e : j = n
    · rw [e] at d; exact Or.inr d
    · exact Or.inl ⟨j, a, by omega, c, d⟩
  · rintro (⟨j, a, b, c, d⟩ | d)
    · exact ⟨j, a, by omega, c, d⟩
    · exact ⟨n, h, by omega, hb, d⟩
theorem ex_f (hb : ¬ bt set n) : exS Q set (n + 1) ↔ exS Q set n := by
  constructor
  · rintro ⟨j, a, b, c, d⟩
    by_cases e : j = n
    · rw [e] at c; exact absurd c hb
    · exact ⟨j, a, by omega, c, d⟩
  · rintro ⟨j, a, b, c, d⟩
    exact ⟨j, a, by omega, c, d⟩
end EXS
theorem gonM_ex {G : PH} {set0 set1 x : Int} : gonM G set0 set1 x ↔ (exS (fun j => (gA G 242 0 (0 + j)) = x) set0 (gA G 243 0 (0)) ∨ exS (fun j => (gA G 242 0 (7 + j)) = x) set1 (gA G 243 0 (1))) := by
  unfold gonM exS
  constructor
  · rintro (⟨j, a, b, c, d⟩ | h)
    · exact Or.inl ⟨j, a, b, c, by show (gA G 242 0 (0 + j)) = x; rw [Int.zero_add]; exact d⟩
    · exact Or.inr h
  · rintro (⟨j, a, b, c, d⟩ | h)
    · exact Or.inl ⟨j, a, b, c, by have d : (gA G 242 0 (0 + j)) = x := d; rw [Int.zero_add] at d; exact d⟩
    · exact Or.inr h
def psN (a : Int) : Nat → Int
  | 0 => 0
  | k + 1 => psN a k + pAnd (pShr a k) 1
theorem psN_s {a n : Int} (h : 0 ≤ n) : psN a (n + 1).toNat = psN a n.toNat + pAnd (pShr a n) 1 := by
  rw [show (n + 1).toNat = n.toNat + 1 by omega, psN, Int.toNat_of_nonneg h]
theorem psN_31 {a : Int} (h : 0 ≤ a ∧ a < 128) : psN a 31 = pcF a := by
  have key : ∀ j : Nat, j < 128 → psN j 31 = pcF j := by decide +kernel
  have := key a.toNat (by omega)
  rwa [Int.toNat_of_nonneg h.1] at this
theorem pShr_div {a : Int} (ha : -2147483648 ≤ a ∧ a < 2147483648) : ∀ n : Nat, n < 8 → pShr a n = a / ((2 ^ n : Nat) : Int) := by
  intro n hn
  have h0 : ∀ k : Nat, k < 8 → ((Int32.ofInt k &&& 31).toBitVec.smod 32).toNat = k := by decide +kernel
  have h1 : (Int32.ofInt a >>> (Int32.ofInt n &&& 31)).toInt = (Int32.ofInt a).toInt >>> ((Int32.ofInt n &&& 31).toBitVec.smod 32).toNat := BitVec.toInt_sshiftRight' ..
  unfold pShr
  rw [h1, h0 n hn, Int.shiftRight_eq_div_pow, tI_of ha]
theorem shr_iff {a n : Int} (ha : -2147483648 ≤ a ∧ a < 2147483648) (hn : 0 ≤ n ∧ n ≤ 7) : pShr a n = 0 ↔ (0 ≤ a ∧ a < pShl 1 n) := by
  have h1 := pShr_div ha n.toNat (by omega)
  rw [Int.toNat_of_nonneg hn.1] at h1
  have h2 : pShl 1 n = ((2 ^ n.toNat : Nat) : Int) := by
    have key : ∀ j : Nat, j < 8 → pShl 1 j = ((2 ^ j : Nat) : Int) := by decide +kernel
    have := key n.toNat (by omega)
    rwa [Int.toNat_of_nonneg hn.1] at this
  have h3 : 0 < ((2 ^ n.toNat : Nat) : Int) := by
    have := Nat.two_pow_pos n.toNat
    omega
  rw [h1, h2]
  constructor
  · intro h
    have h4 := Int.emod_add_mul_ediv a ((2 ^ n.toNat : Nat) : Int)
    have h5 := Int.emod_nonneg a (show ((2 ^ n.toNat : Nat) : Int) ≠ 0 by omega)
    have h6 := Int.emod_lt_of_pos a h3
    rw [h, Int.mul_zero] at h4
    omega
  · intro h
    exact Int.ediv_eq_zero_of_lt h.1 h.2
def ltM (G : PH) (ST : Int → Int → Int → Prop) (WT : Int → Int → Int → Int → Int) (a b : Int) : Prop := vdM G ST WT a b = 0

theorem wd_m12_433 : Cond.methodLink "NameRollsModel" 433 M_X12_partsChild.1 ∈ UW := UW9_at 219 (by decide +kernel) rfl
theorem wd_s12_partsChild : Cond.selects M_X12_partsChild.1.cls M_X12_partsChild.1 M_X12_partsChild.1 ∈ UW := UWp_at 94 (by decide +kernel) rfl
theorem wd_m12_437 : Cond.methodLink "NameRollsModel" 437 M_X12_lacksDoctor.1 ∈ UW := UW9_at 227 (by decide +kernel) rfl
theorem wd_s12_lacksDoctor : Cond.selects M_X12_lacksDoctor.1.cls M_X12_lacksDoctor.1 M_X12_lacksDoctor.1 ∈ UW := UWp_at 96 (by decide +kernel) rfl
theorem wd_m12_443 : Cond.methodLink "NameRollsModel" 443 M_X12_findOffered.1 ∈ UW := UW9_at 211 (by decide +kernel) rfl
theorem wd_s12_findOffered : Cond.selects M_X12_findOffered.1.cls M_X12_findOffered.1 M_X12_findOffered.1 ∈ UW := UWp_at 92 (by decide +kernel) rfl
theorem wd_m12_446 : Cond.methodLink "NameRollsModel" 446 M_X12_fails.1 ∈ UW := UW9_at 215 (by decide +kernel) rfl
theorem wd_s12_fails : Cond.selects M_X12_fails.1.cls M_X12_fails.1 M_X12_fails.1 ∈ UW := UWp_at 93 (by decide +kernel) rfl
theorem r_12_fails_0 : RC M_X12_fails 0 0 1 := ⟨⟨by decide, by decide⟩, Or.inl ⟨by decide +kernel, rfl⟩⟩
theorem r_12_fails_1 : RS M_X12_fails 1 3 2 := ⟨by decide, Or.inl ⟨3, by decide +kernel, rfl, rfl⟩⟩
theorem r_12_fails_2 : RL M_X12_fails 2 3 3 := Or.inl ⟨3, by decide +kernel, rfl, rfl⟩
theorem r_12_fails_3 : RA M_X12_fails 3 0 4 := Or.inl ⟨0, by decide +kernel, rfl, rfl⟩
theorem r_12_fails_4 : RG M_X12_fails 4 12 17 7 := ⟨251, _, by decide +kernel, rfl, by decide, wd_f12_251, rfl, rfl⟩
theorem r_12_fails_7 : RB M_X12_fails 7 (.if_icmp .ge) 23 10 := ⟨16, by decide +kernel, rfl, rfl⟩
theorem r_12_fails_23 : RC M_X12_fails 23 1 24 := ⟨⟨by decide, by decide⟩, Or.inl ⟨by decide +kernel, rfl⟩⟩
theorem r_12_fails_24 : RS M_X12_fails 24 3 25 := ⟨by decide, Or.inl ⟨3, by decide +kernel, rfl, rfl⟩⟩
theorem r_12_fails_25 : RC M_X12_fails 25 0 26 := ⟨⟨by decide, by decide⟩, Or.inl ⟨by decide +kernel, rfl⟩⟩
theorem r_12_fails_26 : RS M_X12_fails 26 4 28 := ⟨by decide, Or.inr ⟨by decide +kernel, rfl⟩⟩
theorem r_12_fails_28 : RC M_X12_fails 28 0 29 := ⟨⟨by decide, by decide⟩, Or.inl ⟨by decide +kernel, rfl⟩⟩
theorem r_12_fails_29 : RS M_X12_fails 29 5 31 := ⟨by decide, Or.inr ⟨by decide +kernel, rfl⟩⟩
theorem r_12_fails_31 : RC M_X12_fails 31 0 32 := ⟨⟨by decide, by decide⟩, Or.inl ⟨by decide +kernel, rfl⟩⟩
theorem r_12_fails_32 : RS M_X12_fails 32 6 34 := ⟨by decide, Or.inr ⟨by decide +kernel, rfl⟩⟩
theorem r_12_fails_34 : RC M_X12_fails 34 0 35 := ⟨⟨by decide, by decide⟩, Or.inl ⟨by decide +kernel, rfl⟩⟩
theorem r_12_fails_35 : RS M_X12_fails 35 7 37 := ⟨by decide, Or.inr ⟨by decide +kernel, rfl⟩⟩
theorem r_12_fails_37 : RC M_X12_fails 37 0 38 := ⟨⟨by decide, by decide⟩, Or.inl ⟨by decide +kernel, rfl⟩⟩
theorem r_12_fails_38 : RS M_X12_fails 38 8 40 := ⟨by decide, Or.inr ⟨by decide +kernel, rfl⟩⟩
theorem r_12_fails_40 : RC M_X12_fails 40 0 41 := ⟨⟨by decide, by decide⟩, Or.inl ⟨by decide +kernel, rfl⟩⟩
theorem r_12_fails_41 : RS M_X12_fails 41 9 43 := ⟨by decide, Or.inr ⟨by decide +kernel, rfl⟩⟩
theorem r_12_fails_43 : RL M_X12_fails 43 9 45 := Or.inr ⟨by decide +kernel, rfl⟩
theorem r_12_fails_45 : RC M_X12_fails 45 2 46 := ⟨⟨by decide, by decide⟩, Or.inl ⟨by decide +kernel, rfl⟩⟩
theorem r_12_fails_46 : RB M_X12_fails 46 (.if_icmp .ge) 263 49 := ⟨217, by decide +kernel, rfl, rfl⟩
theorem r_12_fails_49 : RC M_X12_fails 49 0 50 := ⟨⟨by decide, by decide⟩, Or.inl ⟨by decide +kernel, rfl⟩⟩
theorem r_12_fails_50 : RS M_X12_fails 50 10 52 := ⟨by decide, Or.inr ⟨by decide +kernel, rfl⟩⟩
theorem r_12_fails_52 : RL M_X12_fails 52 10 54 := Or.inr ⟨by decide +kernel, rfl⟩
theorem r_12_fails_54 : RA M_X12_fails 54 0 55 := Or.inl ⟨0, by decide +kernel, rfl, rfl⟩
theorem r_12_fails_55 : RG M_X12_fails 55 12 61 58 := ⟨144, _, by decide +kernel, rfl, by decide, wd_f12_144, rfl, rfl⟩
theorem r_12_fails_58 : RL M_X12_fails 58 9 60 := Or.inr ⟨by decide +kernel, rfl⟩
theorem r_12_fails_60 : RW M_X12_fails 60 .iaload 61 1 := ⟨by decide +kernel, rfl⟩
theorem r_12_fails_61 : RB M_X12_fails 61 (.if_icmp .ge) 257 64 := ⟨196, by decide +kernel, rfl, rfl⟩
theorem r_12_fails_257 : RI M_X12_fails 257 9 1 260 := ⟨by decide, by decide +kernel, rfl⟩
theorem r_12_fails_260 : RB M_X12_fails 260 .goto 43 263 := ⟨(-217), by decide +kernel, rfl, rfl⟩
theorem r_12_fails_263 : RL M_X12_fails 263 3 264 := Or.inl ⟨3, by decide +kernel, rfl, rfl⟩
theorem r_12_fails_264 : RB M_X12_fails 264 (.ifCond .ne) 269 267 := ⟨5, by decide +kernel, rfl, rfl⟩
theorem r_12_fails_269 : RL M_X12_fails 269 4 271 := Or.inr ⟨by decide +kernel, rfl⟩
theorem r_12_fails_271 : RB M_X12_fails 271 (.ifCond .eq) 276 274 := ⟨5, by decide +kernel, rfl, rfl⟩
theorem r_12_fails_276 : RL M_X12_fails 276 5 278 := Or.inr ⟨by decide +kernel, rfl⟩
theorem r_12_fails_278 : RL M_X12_fails 278 6 280 := Or.inr ⟨by decide +kernel, rfl⟩
theorem r_12_fails_280 : RB M_X12_fails 280 (.if_icmp .le) 285 283 := ⟨5, by decide +kernel, rfl, rfl⟩
theorem r_12_fails_285 : RL M_X12_fails 285 7 287 := Or.inr ⟨by decide +kernel, rfl⟩
theorem r_12_fails_287 : RL M_X12_fails 287 8 289 := Or.inr ⟨by decide +kernel, rfl⟩
theorem r_12_fails_289 : RB M_X12_fails 289 (.if_icmp .le) 294 292 := ⟨5, by decide +kernel, rfl, rfl⟩
theorem r_12_fails_294 : RA M_X12_fails 294 0 295 := Or.inl ⟨0, by decide +kernel, rfl, rfl⟩
theorem r_12_fails_295 : RKv M_X12_fails M_X12_partsChild 295 0 12 298 := ⟨433, by decide +kernel, wd_m12_433, ok_M_X12_partsChild, wd_s12_partsChild, rfl⟩
theorem r_12_fails_298 : RB M_X12_fails 298 (.ifCond .eq) 305 301 := ⟨7, by decide +kernel, rfl, rfl⟩
theorem r_12_fails_305 : RA M_X12_fails 305 0 306 := Or.inl ⟨0, by decide +kernel, rfl, rfl⟩
theorem r_12_fails_306 : RKv M_X12_fails M_X12_lacksDoctor 306 0 12 309 := ⟨437, by decide +kernel, wd_m12_437, ok_M_X12_lacksDoctor, wd_s12_lacksDoctor, rfl⟩
theorem r_12_fails_309 : RB M_X12_fails 309 (.ifCond .eq) 317 312 := ⟨8, by decide +kernel, rfl, rfl⟩
theorem r_12_fails_317 : RC M_X12_fails 317 0 318 := ⟨⟨by decide, by decide⟩, Or.inl ⟨by decide +kernel, rfl⟩⟩
theorem r_12_fails_318 : RW M_X12_fails 318 .ireturn 319 1 := ⟨by decide +kernel, rfl⟩
theorem r_12_fails_312 : RC M_X12_fails 312 6 314 := ⟨⟨by decide, by decide⟩, Or.inr (Or.inl ⟨by decide +kernel, by decide, rfl⟩)⟩
theorem r_12_fails_314 : RB M_X12_fails 314 .goto 318 317 := ⟨4, by decide +kernel, rfl, rfl⟩
theorem r_12_fails_301 : RC M_X12_fails 301 5 302 := ⟨⟨by decide, by decide⟩, Or.inl ⟨by decide +kernel, rfl⟩⟩
theorem r_12_fails_302 : RB M_X12_fails 302 .goto 318 305 := ⟨16, by decide +kernel, rfl, rfl⟩
theorem r_12_fails_292 : RC M_X12_fails 292 4 293 := ⟨⟨by decide, by decide⟩, Or.inl ⟨by decide +kernel, rfl⟩⟩
theorem r_12_fails_293 : RW M_X12_fails 293 .ireturn 294 1 := ⟨by decide +kernel, rfl⟩
theorem r_12_fails_283 : RC M_X12_fails 283 3 284 := ⟨⟨by decide, by decide⟩, Or.inl ⟨by decide +kernel, rfl⟩⟩
theorem r_12_fails_284 : RW M_X12_fails 284 .ireturn 285 1 := ⟨by decide +kernel, rfl⟩
theorem r_12_fails_274 : RC M_X12_fails 274 2 275 := ⟨⟨by decide, by decide⟩, Or.inl ⟨by decide +kernel, rfl⟩⟩
theorem r_12_fails_275 : RW M_X12_fails 275 .ireturn 276 1 := ⟨by decide +kernel, rfl⟩
theorem r_12_fails_267 : RC M_X12_fails 267 1 268 := ⟨⟨by decide, by decide⟩, Or.inl ⟨by decide +kernel, rfl⟩⟩
theorem r_12_fails_268 : RW M_X12_fails 268 .ireturn 269 1 := ⟨by decide +kernel, rfl⟩
theorem r_12_fails_64 : RC M_X12_fails 64 7 66 := ⟨⟨by decide, by decide⟩, Or.inr (Or.inl ⟨by decide +kernel, by decide, rfl⟩)⟩
theorem r_12_fails_66 : RL M_X12_fails 66 9 68 := Or.inr ⟨by decide +kernel, rfl⟩
theorem r_12_fails_68 : RW M_X12_fails 68 .imul 69 1 := ⟨by decide +kernel, rfl⟩
theorem r_12_fails_69 : RL M_X12_fails 69 10 71 := Or.inr ⟨by decide +kernel, rfl⟩
theorem r_12_fails_71 : RW M_X12_fails 71 .iadd 72 1 := ⟨by decide +kernel, rfl⟩
theorem r_12_fails_72 : RS M_X12_fails 72 11 74 := ⟨by decide, Or.inr ⟨by decide +kernel, rfl⟩⟩
theorem r_12_fails_74 : RL M_X12_fails 74 9 76 := Or.inr ⟨by decide +kernel, rfl⟩
theorem r_12_fails_76 : RB M_X12_fails 76 (.ifCond .ne) 83 79 := ⟨7, by decide +kernel, rfl, rfl⟩
theorem r_12_fails_83 : RL M_X12_fails 83 2 84 := Or.inl ⟨2, by decide +kernel, rfl, rfl⟩
theorem r_12_fails_84 : RL M_X12_fails 84 10 86 := Or.inr ⟨by decide +kernel, rfl⟩
theorem r_12_fails_86 : RW M_X12_fails 86 .ishr 87 1 := ⟨by decide +kernel, rfl⟩
theorem r_12_fails_87 : RC M_X12_fails 87 1 88 := ⟨⟨by decide, by decide⟩, Or.inl ⟨by decide +kernel, rfl⟩⟩
theorem r_12_fails_88 : RW M_X12_fails 88 .iand 89 1 := ⟨by decide +kernel, rfl⟩
theorem r_12_fails_89 : RC M_X12_fails 89 1 90 := ⟨⟨by decide, by decide⟩, Or.inl ⟨by decide +kernel, rfl⟩⟩
theorem r_12_fails_90 : RB M_X12_fails 90 (.if_icmp .ne) 251 93 := ⟨161, by decide +kernel, rfl, rfl⟩
theorem r_12_fails_251 : RI M_X12_fails 251 10 1 254 := ⟨by decide, by decide +kernel, rfl⟩
theorem r_12_fails_254 : RB M_X12_fails 254 .goto 52 257 := ⟨(-202), by decide +kernel, rfl, rfl⟩
theorem r_12_fails_93 : RA M_X12_fails 93 0 94 := Or.inl ⟨0, by decide +kernel, rfl, rfl⟩
theorem r_12_fails_94 : RG M_X12_fails 94 12 67 97 := ⟨162, _, by decide +kernel, rfl, by decide, wd_f12_162, rfl, rfl⟩
theorem r_12_fails_97 : RA M_X12_fails 97 0 98 := Or.inl ⟨0, by decide +kernel, rfl, rfl⟩
theorem r_12_fails_98 : RG M_X12_fails 98 12 60 101 := ⟨141, _, by decide +kernel, rfl, by decide, wd_f12_141, rfl, rfl⟩
theorem r_12_fails_101 : RL M_X12_fails 101 11 103 := Or.inr ⟨by decide +kernel, rfl⟩
theorem r_12_fails_103 : RW M_X12_fails 103 .iaload 104 1 := ⟨by decide +kernel, rfl⟩
theorem r_12_fails_104 : RC M_X12_fails 104 1 105 := ⟨⟨by decide, by decide⟩, Or.inl ⟨by decide +kernel, rfl⟩⟩
theorem r_12_fails_105 : RW M_X12_fails 105 .bastore 106 1 := ⟨by decide +kernel, rfl⟩
theorem r_12_fails_106 : RL M_X12_fails 106 3 107 := Or.inl ⟨3, by decide +kernel, rfl, rfl⟩
theorem r_12_fails_107 : RB M_X12_fails 107 (.ifCond .eq) 129 110 := ⟨22, by decide +kernel, rfl, rfl⟩
theorem r_12_fails_129 : RC M_X12_fails 129 0 130 := ⟨⟨by decide, by decide⟩, Or.inl ⟨by decide +kernel, rfl⟩⟩
theorem r_12_fails_130 : RS M_X12_fails 130 3 131 := ⟨by decide, Or.inl ⟨3, by decide +kernel, rfl, rfl⟩⟩
theorem r_12_fails_131 : RL M_X12_fails 131 4 133 := Or.inr ⟨by decide +kernel, rfl⟩
theorem r_12_fails_133 : RB M_X12_fails 133 (.ifCond .ne) 146 136 := ⟨13, by decide +kernel, rfl, rfl⟩
theorem r_12_fails_146 : RC M_X12_fails 146 1 147 := ⟨⟨by decide, by decide⟩, Or.inl ⟨by decide +kernel, rfl⟩⟩
theorem r_12_fails_147 : RB M_X12_fails 147 .goto 151 150 := ⟨4, by decide +kernel, rfl, rfl⟩
theorem r_12_fails_151 : RS M_X12_fails 151 4 153 := ⟨by decide, Or.inr ⟨by decide +kernel, rfl⟩⟩
theorem r_12_fails_153 : RL M_X12_fails 153 5 155 := Or.inr ⟨by decide +kernel, rfl⟩
theorem r_12_fails_155 : RL M_X12_fails 155 9 157 := Or.inr ⟨by decide +kernel, rfl⟩
theorem r_12_fails_157 : RB M_X12_fails 157 (.ifCond .ne) 172 160 := ⟨15, by decide +kernel, rfl, rfl⟩
theorem r_12_fails_172 : RC M_X12_fails 172 0 173 := ⟨⟨by decide, by decide⟩, Or.inl ⟨by decide +kernel, rfl⟩⟩
theorem r_12_fails_173 : RW M_X12_fails 173 .iadd 174 1 := ⟨by decide +kernel, rfl⟩
theorem r_12_fails_174 : RS M_X12_fails 174 5 176 := ⟨by decide, Or.inr ⟨by decide +kernel, rfl⟩⟩
theorem r_12_fails_176 : RL M_X12_fails 176 6 178 := Or.inr ⟨by decide +kernel, rfl⟩
theorem r_12_fails_178 : RL M_X12_fails 178 9 180 := Or.inr ⟨by decide +kernel, rfl⟩
theorem r_12_fails_180 : RC M_X12_fails 180 1 181 := ⟨⟨by decide, by decide⟩, Or.inl ⟨by decide +kernel, rfl⟩⟩
theorem r_12_fails_181 : RB M_X12_fails 181 (.if_icmp .ne) 196 184 := ⟨15, by decide +kernel, rfl, rfl⟩
theorem r_12_fails_184 : RA M_X12_fails 184 0 185 := Or.inl ⟨0, by decide +kernel, rfl, rfl⟩
theorem r_12_fails_185 : RG M_X12_fails 185 12 66 188 := ⟨159, _, by decide +kernel, rfl, by decide, wd_f12_159, rfl, rfl⟩
theorem r_12_fails_188 : RC M_X12_fails 188 2 189 := ⟨⟨by decide, by decide⟩, Or.inl ⟨by decide +kernel, rfl⟩⟩
theorem r_12_fails_189 : RL M_X12_fails 189 11 191 := Or.inr ⟨by decide +kernel, rfl⟩
theorem r_12_fails_191 : RW M_X12_fails 191 .imul 192 1 := ⟨by decide +kernel, rfl⟩
theorem r_12_fails_192 : RW M_X12_fails 192 .iaload 193 1 := ⟨by decide +kernel, rfl⟩
theorem r_12_fails_193 : RB M_X12_fails 193 .goto 197 196 := ⟨4, by decide +kernel, rfl, rfl⟩
theorem r_12_fails_197 : RW M_X12_fails 197 .iadd 198 1 := ⟨by decide +kernel, rfl⟩
theorem r_12_fails_198 : RS M_X12_fails 198 6 200 := ⟨by decide, Or.inr ⟨by decide +kernel, rfl⟩⟩
theorem r_12_fails_200 : RL M_X12_fails 200 7 202 := Or.inr ⟨by decide +kernel, rfl⟩
theorem r_12_fails_202 : RL M_X12_fails 202 9 204 := Or.inr ⟨by decide +kernel, rfl⟩
theorem r_12_fails_204 : RC M_X12_fails 204 1 205 := ⟨⟨by decide, by decide⟩, Or.inl ⟨by decide +kernel, rfl⟩⟩
theorem r_12_fails_205 : RB M_X12_fails 205 (.if_icmp .ne) 222 208 := ⟨17, by decide +kernel, rfl, rfl⟩
theorem r_12_fails_208 : RA M_X12_fails 208 0 209 := Or.inl ⟨0, by decide +kernel, rfl, rfl⟩
theorem r_12_fails_209 : RG M_X12_fails 209 12 66 212 := ⟨159, _, by decide +kernel, rfl, by decide, wd_f12_159, rfl, rfl⟩
theorem r_12_fails_212 : RC M_X12_fails 212 2 213 := ⟨⟨by decide, by decide⟩, Or.inl ⟨by decide +kernel, rfl⟩⟩
theorem r_12_fails_213 : RL M_X12_fails 213 11 215 := Or.inr ⟨by decide +kernel, rfl⟩
theorem r_12_fails_215 : RW M_X12_fails 215 .imul 216 1 := ⟨by decide +kernel, rfl⟩
theorem r_12_fails_216 : RC M_X12_fails 216 1 217 := ⟨⟨by decide, by decide⟩, Or.inl ⟨by decide +kernel, rfl⟩⟩
theorem r_12_fails_217 : RW M_X12_fails 217 .iadd 218 1 := ⟨by decide +kernel, rfl⟩
theorem r_12_fails_218 : RW M_X12_fails 218 .iaload 219 1 := ⟨by decide +kernel, rfl⟩
theorem r_12_fails_219 : RB M_X12_fails 219 .goto 223 222 := ⟨4, by decide +kernel, rfl, rfl⟩
theorem r_12_fails_223 : RW M_X12_fails 223 .iadd 224 1 := ⟨by decide +kernel, rfl⟩
theorem r_12_fails_224 : RS M_X12_fails 224 7 226 := ⟨by decide, Or.inr ⟨by decide +kernel, rfl⟩⟩
theorem r_12_fails_226 : RL M_X12_fails 226 8 228 := Or.inr ⟨by decide +kernel, rfl⟩
theorem r_12_fails_228 : RL M_X12_fails 228 9 230 := Or.inr ⟨by decide +kernel, rfl⟩
theorem r_12_fails_230 : RB M_X12_fails 230 (.ifCond .ne) 247 233 := ⟨17, by decide +kernel, rfl, rfl⟩
theorem r_12_fails_247 : RC M_X12_fails 247 0 248 := ⟨⟨by decide, by decide⟩, Or.inl ⟨by decide +kernel, rfl⟩⟩
theorem r_12_fails_248 : RW M_X12_fails 248 .iadd 249 1 := ⟨by decide +kernel, rfl⟩
theorem r_12_fails_249 : RS M_X12_fails 249 8 251 := ⟨by decide, Or.inr ⟨by decide +kernel, rfl⟩⟩
theorem r_12_fails_136 : RA M_X12_fails 136 0 137 := Or.inl ⟨0, by decide +kernel, rfl, rfl⟩
theorem r_12_fails_137 : RG M_X12_fails 137 12 65 140 := ⟨156, _, by decide +kernel, rfl, by decide, wd_f12_156, rfl, rfl⟩
theorem r_12_fails_140 : RL M_X12_fails 140 11 142 := Or.inr ⟨by decide +kernel, rfl⟩
theorem r_12_fails_142 : RW M_X12_fails 142 .baload 143 1 := ⟨by decide +kernel, rfl⟩
theorem r_12_fails_143 : RB M_X12_fails 143 (.ifCond .eq) 150 146 := ⟨7, by decide +kernel, rfl, rfl⟩
theorem r_12_fails_150 : RC M_X12_fails 150 0 151 := ⟨⟨by decide, by decide⟩, Or.inl ⟨by decide +kernel, rfl⟩⟩
theorem r_12_fails_110 : RA M_X12_fails 110 0 111 := Or.inl ⟨0, by decide +kernel, rfl, rfl⟩
theorem r_12_fails_111 : RG M_X12_fails 111 12 8 114 := ⟨28, _, by decide +kernel, rfl, by decide, wd_f12_28, rfl, rfl⟩
theorem r_12_fails_114 : RA M_X12_fails 114 0 115 := Or.inl ⟨0, by decide +kernel, rfl, rfl⟩
theorem r_12_fails_115 : RG M_X12_fails 115 12 60 118 := ⟨141, _, by decide +kernel, rfl, by decide, wd_f12_141, rfl, rfl⟩
theorem r_12_fails_118 : RL M_X12_fails 118 11 120 := Or.inr ⟨by decide +kernel, rfl⟩
theorem r_12_fails_120 : RW M_X12_fails 120 .iaload 121 1 := ⟨by decide +kernel, rfl⟩
theorem r_12_fails_121 : RW M_X12_fails 121 .iaload 122 1 := ⟨by decide +kernel, rfl⟩
theorem r_12_fails_122 : RB M_X12_fails 122 (.ifCond .ne) 129 125 := ⟨7, by decide +kernel, rfl, rfl⟩
theorem r_12_fails_125 : RC M_X12_fails 125 1 126 := ⟨⟨by decide, by decide⟩, Or.inl ⟨by decide +kernel, rfl⟩⟩
theorem r_12_fails_126 : RB M_X12_fails 126 .goto 130 129 := ⟨4, by decide +kernel, rfl, rfl⟩
theorem r_12_fails_79 : RL M_X12_fails 79 1 80 := Or.inl ⟨1, by decide +kernel, rfl, rfl⟩
theorem r_12_fails_80 : RB M_X12_fails 80 .goto 84 83 := ⟨4, by decide +kernel, rfl, rfl⟩
theorem r_12_fails_160 : RA M_X12_fails 160 0 161 := Or.inl ⟨0, by decide +kernel, rfl, rfl⟩
theorem r_12_fails_161 : RG M_X12_fails 161 12 66 164 := ⟨159, _, by decide +kernel, rfl, by decide, wd_f12_159, rfl, rfl⟩
theorem r_12_fails_164 : RC M_X12_fails 164 2 165 := ⟨⟨by decide, by decide⟩, Or.inl ⟨by decide +kernel, rfl⟩⟩
theorem r_12_fails_165 : RL M_X12_fails 165 11 167 := Or.inr ⟨by decide +kernel, rfl⟩
theorem r_12_fails_167 : RW M_X12_fails 167 .imul 168 1 := ⟨by decide +kernel, rfl⟩
theorem r_12_fails_168 : RW M_X12_fails 168 .iaload 169 1 := ⟨by decide +kernel, rfl⟩
theorem r_12_fails_169 : RB M_X12_fails 169 .goto 173 172 := ⟨4, by decide +kernel, rfl, rfl⟩
theorem r_12_fails_196 : RC M_X12_fails 196 0 197 := ⟨⟨by decide, by decide⟩, Or.inl ⟨by decide +kernel, rfl⟩⟩
theorem r_12_fails_222 : RC M_X12_fails 222 0 223 := ⟨⟨by decide, by decide⟩, Or.inl ⟨by decide +kernel, rfl⟩⟩
theorem r_12_fails_233 : RA M_X12_fails 233 0 234 := Or.inl ⟨0, by decide +kernel, rfl, rfl⟩
theorem r_12_fails_234 : RG M_X12_fails 234 12 66 237 := ⟨159, _, by decide +kernel, rfl, by decide, wd_f12_159, rfl, rfl⟩
theorem r_12_fails_237 : RC M_X12_fails 237 2 238 := ⟨⟨by decide, by decide⟩, Or.inl ⟨by decide +kernel, rfl⟩⟩
theorem r_12_fails_238 : RL M_X12_fails 238 11 240 := Or.inr ⟨by decide +kernel, rfl⟩
theorem r_12_fails_240 : RW M_X12_fails 240 .imul 241 1 := ⟨by decide +kernel, rfl⟩
theorem r_12_fails_241 : RC M_X12_fails 241 1 242 := ⟨⟨by decide, by decide⟩, Or.inl ⟨by decide +kernel, rfl⟩⟩
theorem r_12_fails_242 : RW M_X12_fails 242 .iadd 243 1 := ⟨by decide +kernel, rfl⟩
theorem r_12_fails_243 : RW M_X12_fails 243 .iaload 244 1 := ⟨by decide +kernel, rfl⟩
theorem r_12_fails_244 : RB M_X12_fails 244 .goto 248 247 := ⟨4, by decide +kernel, rfl, rfl⟩
theorem r_12_fails_10 : RA M_X12_fails 10 0 11 := Or.inl ⟨0, by decide +kernel, rfl, rfl⟩
theorem r_12_fails_11 : RG M_X12_fails 11 12 67 14 := ⟨162, _, by decide +kernel, rfl, by decide, wd_f12_162, rfl, rfl⟩
theorem r_12_fails_14 : RL M_X12_fails 14 3 15 := Or.inl ⟨3, by decide +kernel, rfl, rfl⟩
theorem r_12_fails_15 : RC M_X12_fails 15 0 16 := ⟨⟨by decide, by decide⟩, Or.inl ⟨by decide +kernel, rfl⟩⟩
theorem r_12_fails_16 : RW M_X12_fails 16 .bastore 17 1 := ⟨by decide +kernel, rfl⟩
theorem r_12_fails_17 : RI M_X12_fails 17 3 1 20 := ⟨by decide, by decide +kernel, rfl⟩
theorem r_12_fails_20 : RB M_X12_fails 20 .goto 2 23 := ⟨(-18), by decide +kernel, rfl, rfl⟩
theorem r_12_judge_0 : RL M_X12_judge 0 1 1 := Or.inl ⟨1, by decide +kernel, rfl, rfl⟩
theorem r_12_judge_1 : RA M_X12_judge 1 0 2 := Or.inl ⟨0, by decide +kernel, rfl, rfl⟩
theorem r_12_judge_2 : RG M_X12_judge 2 12 61 5 := ⟨144, _, by decide +kernel, rfl, by decide, wd_f12_144, rfl, rfl⟩
theorem r_12_judge_5 : RC M_X12_judge 5 0 6 := ⟨⟨by decide, by decide⟩, Or.inl ⟨by decide +kernel, rfl⟩⟩
theorem r_12_judge_6 : RW M_X12_judge 6 .iaload 7 1 := ⟨by decide +kernel, rfl⟩
theorem r_12_judge_7 : RW M_X12_judge 7 .ishr 8 1 := ⟨by decide +kernel, rfl⟩
theorem r_12_judge_8 : RB M_X12_judge 8 (.ifCond .ne) 22 11 := ⟨14, by decide +kernel, rfl, rfl⟩
theorem r_12_judge_22 : RC M_X12_judge 22 (-1) 23 := ⟨⟨by decide, by decide⟩, Or.inl ⟨by decide +kernel, rfl⟩⟩
theorem r_12_judge_23 : RW M_X12_judge 23 .ireturn 24 1 := ⟨by decide +kernel, rfl⟩
theorem r_12_judge_11 : RL M_X12_judge 11 2 12 := Or.inl ⟨2, by decide +kernel, rfl, rfl⟩
theorem r_12_judge_12 : RA M_X12_judge 12 0 13 := Or.inl ⟨0, by decide +kernel, rfl, rfl⟩
theorem r_12_judge_13 : RG M_X12_judge 13 12 61 16 := ⟨144, _, by decide +kernel, rfl, by decide, wd_f12_144, rfl, rfl⟩
theorem r_12_judge_16 : RC M_X12_judge 16 1 17 := ⟨⟨by decide, by decide⟩, Or.inl ⟨by decide +kernel, rfl⟩⟩
theorem r_12_judge_17 : RW M_X12_judge 17 .iaload 18 1 := ⟨by decide +kernel, rfl⟩
theorem r_12_judge_18 : RW M_X12_judge 18 .ishr 19 1 := ⟨by decide +kernel, rfl⟩
theorem r_12_judge_19 : RB M_X12_judge 19 (.ifCond .eq) 24 22 := ⟨5, by decide +kernel, rfl, rfl⟩
theorem r_12_judge_24 : RA M_X12_judge 24 0 25 := Or.inl ⟨0, by decide +kernel, rfl, rfl⟩
theorem r_12_judge_25 : RKv M_X12_judge M_X12_findOffered 25 0 12 28 := ⟨443, by decide +kernel, wd_m12_443, ok_M_X12_findOffered, wd_s12_findOffered, rfl⟩
theorem r_12_judge_28 : RA M_X12_judge 28 0 29 := Or.inl ⟨0, by decide +kernel, rfl, rfl⟩
theorem r_12_judge_29 : RL M_X12_judge 29 1 30 := Or.inl ⟨1, by decide +kernel, rfl, rfl⟩
theorem r_12_judge_30 : RL M_X12_judge 30 2 31 := Or.inl ⟨2, by decide +kernel, rfl, rfl⟩
theorem r_12_judge_31 : RKv M_X12_judge M_X12_fails 31 2 12 34 := ⟨446, by decide +kernel, wd_m12_446, ok_M_X12_fails, wd_s12_fails, rfl⟩
theorem r_12_judge_34 : RW M_X12_judge 34 .ireturn 35 1 := ⟨by decide +kernel, rfl⟩
theorem r_12_countOf_0 : RC M_X12_countOf 0 0 1 := ⟨⟨by decide, by decide⟩, Or.inl ⟨by decide +kernel, rfl⟩⟩
theorem r_12_countOf_1 : RS M_X12_countOf 1 1 2 := ⟨by decide, Or.inl ⟨1, by decide +kernel, rfl, rfl⟩⟩
theorem r_12_countOf_2 : RC M_X12_countOf 2 0 3 := ⟨⟨by decide, by decide⟩, Or.inl ⟨by decide +kernel, rfl⟩⟩
theorem r_12_countOf_3 : RS M_X12_countOf 3 2 4 := ⟨by decide, Or.inl ⟨2, by decide +kernel, rfl, rfl⟩⟩
theorem r_12_countOf_4 : RL M_X12_countOf 4 2 5 := Or.inl ⟨2, by decide +kernel, rfl, rfl⟩
theorem r_12_countOf_5 : RC M_X12_countOf 5 31 7 := ⟨⟨by decide, by decide⟩, Or.inr (Or.inl ⟨by decide +kernel, by decide, rfl⟩)⟩
theorem r_12_countOf_7 : RB M_X12_countOf 7 (.if_icmp .ge) 24 10 := ⟨17, by decide +kernel, rfl, rfl⟩
theorem r_12_countOf_24 : RL M_X12_countOf 24 1 25 := Or.inl ⟨1, by decide +kernel, rfl, rfl⟩
theorem r_12_countOf_25 : RW M_X12_countOf 25 .ireturn 26 1 := ⟨by decide +kernel, rfl⟩
theorem r_12_countOf_10 : RL M_X12_countOf 10 1 11 := Or.inl ⟨1, by decide +kernel, rfl, rfl⟩
theorem r_12_countOf_11 : RL M_X12_countOf 11 0 12 := Or.inl ⟨0, by decide +kernel, rfl, rfl⟩
theorem r_12_countOf_12 : RL M_X12_countOf 12 2 13 := Or.inl ⟨2, by decide +kernel, rfl, rfl⟩
theorem r_12_countOf_13 : RW M_X12_countOf 13 .ishr 14 1 := ⟨by decide +kernel, rfl⟩
theorem r_12_countOf_14 : RC M_X12_countOf 14 1 15 := ⟨⟨by decide, by decide⟩, Or.inl ⟨by decide +kernel, rfl⟩⟩
theorem r_12_countOf_15 : RW M_X12_countOf 15 .iand 16 1 := ⟨by decide +kernel, rfl⟩
theorem r_12_countOf_16 : RW M_X12_countOf 16 .iadd 17 1 := ⟨by decide +kernel, rfl⟩
theorem r_12_countOf_17 : RS M_X12_countOf 17 1 18 := ⟨by decide, Or.inl ⟨1, by decide +kernel, rfl, rfl⟩⟩
theorem r_12_countOf_18 : RI M_X12_countOf 18 2 1 21 := ⟨by decide, by decide +kernel, rfl⟩
theorem r_12_countOf_21 : RB M_X12_countOf 21 .goto 4 24 := ⟨(-17), by decide +kernel, rfl, rfl⟩
set_option maxRecDepth 10000 in
theorem sp_X12_fails {l : Launch} {w : Wo} {d : Nat} {G : PH} {P : Option PV → PH → Prop} {set0 set1 : Int} {ST : Int → Int → Int → Prop} {WT : Int → Int → Int → Int → Int}  (hsz : 0 ≤ (gF G 12 0 17) ∧ (gF G 12 0 17) ≤ 150) (hof : ∀ s, 0 ≤ s → s < 2 → 0 ≤ (gA G 243 0 (s)) ∧ (gA G 243 0 (s)) ≤ 7) (hlv : ∀ s i, 0 ≤ s → s < 2 → 0 ≤ i → i < (gA G 243 0 (s)) → 0 ≤ (gA G 242 0 (7 * s + i)) ∧ (gA G 242 0 (7 * s + i)) < (gF G 12 0 17)) (hwi : ∀ x, 0 ≤ x → x < (gF G 12 0 17) → (gA G 209 0 (x)) = -1 ∨ (0 ≤ (gA G 209 0 (x)) ∧ (gA G 209 0 (x)) < (gF G 12 0 17))) (hsA : ∀ i, 0 ≤ i → i < (gF G 12 0 17) → 0 ≤ (gA G 205 0 (i)) ∧ (gA G 205 0 (i)) ≤ 1) (hc : 0 ≤ (gF G 12 0 3) ∧ (gF G 12 0 3) ≤ 16) (hr : 1 ≤ (gF G 12 0 62) ∧ (gF G 12 0 62) ≤ 99) (hf9 : ∀ s i, 0 ≤ s → s < 2 → 0 ≤ i → i < (gA G 243 0 (s)) → fOk (fun p => ST p (gF G 12 0 0) (gF G 12 0 0)) (fun p => WT p 0 (gF G 12 0 0) (gF G 12 0 0)) (fun p => WT p 1 (gF G 12 0 0) (gF G 12 0 0)) (gA G 242 0) (gA G 245 0) (gA G 246 0) s i) (hP : ∀ g : Int → Int, P (some (vI (vdM G ST WT set0 set1))) (uA G 247 0 (g))) : PW l w M_X12_fails (d + 3) 0 [some (vR 12 (0)), some (vI (set0)), some (vI (set1)), none, none, none, none, none, none, none, none, none] [] G P := by
  have hq0 := hof 0 (by decide) (by decide)
  have hq1 := hof 1 (by decide) (by decide)
  refine pw_const r_12_fails_0 ?_
  refine pw_istore (ls' := [some (vR 12 (0)), some (vI (set0)), some (vI (set1)), some (vI (0)), none, none, none, none, none, none, none, none]) r_12_fails_1 rfl rfl ?_
  have L2 : ∀ (nF : Nat) (p : Int) (gz : Int → Int), (hp : 0 ≤ p ∧ p ≤ (gF G 12 0 17)) → (hz : ∀ x, 0 ≤ x → x < p → gz x = 0) → ((gF G 12 0 17) - p).toNat < nF → PW l w M_X12_fails (d + 3) 2 [some (vR 12 (0)), some (vI (set0)), some (vI (set1)), some (vI (p)), none, none, none, none, none, none, none, none] [] (uA G 247 (0) (gz)) P := by
    intro nF
    induction nF with
    | zero => intro _ _ _ _ hM; exact absurd hM (Nat.not_lt_zero _)
    | succ nF ih2 =>
      intro p gz hp hz hM2
      refine pw_iload r_12_fails_2 rfl ?_
      refine pw_aload r_12_fails_3 rfl ?_
      refine pw_getIv (v := gF G 12 (0) 17) r_12_fails_4 fs_12_17 (by decide) (by first | rfl | simp [gF_sF, gF_sA, gF_uA, gF_sD, gA_sF, gA_sA, gA_uA, gA_sD, gD_sF, gD_sA, gD_uA, gD_sD]) ?_
      refine pw_icmp_ge r_12_fails_7 (fun h07 => ?_) (fun h07 => ?_)
      · skip
        refine pw_const r_12_fails_23 ?_
        refine pw_istore (ls' := [some (vR 12 (0)), some (vI (set0)), some (vI (set1)), some (vI (1)), none, none, none, none, none, none, none, none]) r_12_fails_24 rfl rfl ?_
        refine pw_const r_12_fails_25 ?_
        refine pw_istore (ls' := [some (vR 12 (0)), some (vI (set0)), some (vI (set1)), some (vI (1)), some (vI (0)), none, none, none, none, none, none, none]) r_12_fails_26 rfl rfl ?_
        refine pw_const r_12_fails_28 ?_
        refine pw_istore (ls' := [some (vR 12 (0)), some (vI (set0)), some (vI (set1)), some (vI (1)), some (vI (0)), some (vI (0)), none, none, none, none, none, none]) r_12_fails_29 rfl rfl ?_
        refine pw_const r_12_fails_31 ?_
        refine pw_istore (ls' := [some (vR 12 (0)), some (vI (set0)), some (vI (set1)), some (vI (1)), some (vI (0)), some (vI (0)), some (vI (0)), none, none, none, none, none]) r_12_fails_32 rfl rfl ?_
        refine pw_const r_12_fails_34 ?_
        refine pw_istore (ls' := [some (vR 12 (0)), some (vI (set0)), some (vI (set1)), some (vI (1)), some (vI (0)), some (vI (0)), some (vI (0)), some (vI (0)), none, none, none, none]) r_12_fails_35 rfl rfl ?_
        refine pw_const r_12_fails_37 ?_
        refine pw_istore (ls' := [some (vR 12 (0)), some (vI (set0)), some (vI (set1)), some (vI (1)), some (vI (0)), some (vI (0)), some (vI (0)), some (vI (0)), some (vI (0)), none, none, none]) r_12_fails_38 rfl rfl ?_
        refine pw_const r_12_fails_40 ?_
        refine pw_istore (ls' := [some (vR 12 (0)), some (vI (set0)), some (vI (set1)), some (vI (1)), some (vI (0)), some (vI (0)), some (vI (0)), some (vI (0)), some (vI (0)), some (vI (0)), none, none]) r_12_fails_41 rfl rfl ?_
        refine pw_iload r_12_fails_43 rfl ?_
        refine pw_const r_12_fails_45 ?_
        refine pw_icmp_ge r_12_fails_46 (fun h46 => absurd h46 (by decide)) (fun h46 => ?_)
        refine pw_const r_12_fails_49 ?_
        refine pw_istore (ls' := [some (vR 12 (0)), some (vI (set0)), some (vI (set1)), some (vI (1)), some (vI (0)), some (vI (0)), some (vI (0)), some (vI (0)), some (vI (0)), some (vI (0)), some (vI (0)), none]) r_12_fails_50 rfl rfl ?_
        have L52 : ∀ (nF : Nat) (i0 t0 y0 a5 a8 : Int) (g0 : Int → Int), (hi0 : 0 ≤ i0 ∧ i0 ≤ (gA G 243 0 (0))) → (hg0 : ∀ x, 0 ≤ x → x < (gF G 12 0 17) → g0 x = b2i (exS (fun j => (gA G 242 0 (0 + j)) = x) set0 (i0))) → (ht0 : (t0 = 1 ∧ ¬ exS (fun j => (gA G 206 0 ((gA G 242 0 (0 + j)))) ≠ 0) set0 (i0)) ∨ (t0 = 0 ∧ exS (fun j => (gA G 206 0 ((gA G 242 0 (0 + j)))) ≠ 0) set0 (i0))) → (hy0 : (y0 = 1 ∧ exS (fun j => ST (gA G 242 0 (0 + j)) (gF G 12 0 0) (gF G 12 0 0)) set0 (i0)) ∨ (y0 = 0 ∧ ¬ exS (fun j => ST (gA G 242 0 (0 + j)) (gF G 12 0 0) (gF G 12 0 0)) set0 (i0))) → (ha5 : a5 = smF (fun j => WT (gA G 242 0 (0 + j)) 0 (gF G 12 0 0) (gF G 12 0 0)) set0 i0) → (ha8 : a8 = smF (fun j => WT (gA G 242 0 (0 + j)) 1 (gF G 12 0 0) (gF G 12 0 0)) set0 i0) → ((gA G 243 0 (0)) - i0).toNat < nF → PW l w M_X12_fails (d + 3) 52 [some (vR 12 (0)), some (vI (set0)), some (vI (set1)), some (vI (t0)), some (vI (y0)), some (vI (a5)), some (vI (0)), some (vI (0)), some (vI (a8)), some (vI (0)), some (vI (i0)), none] [] (uA G 247 (0) (g0)) P := by
          intro nF
          induction nF with
          | zero => intro _ _ _ _ _ _ _ _ _ _ _ _ hM; exact absurd hM (Nat.not_lt_zero _)
          | succ nF ih52 =>
            intro i0 t0 y0 a5 a8 g0 hi0 hg0 ht0 hy0 ha5 ha8 hM52
            have hn0 := hof 0 (by decide) (by decide)
            refine pw_iload r_12_fails_52 rfl ?_
            refine pw_aload r_12_fails_54 rfl ?_
            refine pw_getR r_12_fails_55 fs_12_61 (by decide) ?_
            refine pw_iload r_12_fails_58 rfl ?_
            refine pw_ialdv (v := gA G 243 (0) (0)) r_12_fails_60 sh243 (by omega) (by omega) (by first | rfl | simp [gF_sF, gF_sA, gF_uA, gF_sD, gA_sF, gA_sA, gA_uA, gA_sD, gD_sF, gD_sA, gD_uA, gD_sD]) ?_
            refine pw_icmp_ge r_12_fails_61 (fun h61 => ?_) (fun h61 => ?_)
            · skip
              refine pw_iinc (b := 0) (ls' := [some (vR 12 (0)), some (vI (set0)), some (vI (set1)), some (vI (t0)), some (vI (y0)), some (vI (a5)), some (vI (0)), some (vI (0)), some (vI (a8)), some (vI (1)), some (vI (i0)), none]) r_12_fails_257 rfl rfl (by omega) rfl ?_
              refine pw_goto r_12_fails_260 ?_
              refine pw_iload r_12_fails_43 rfl ?_
              refine pw_const r_12_fails_45 ?_
              refine pw_icmp_ge r_12_fails_46 (fun h46 => absurd h46 (by decide)) (fun h46 => ?_)
              refine pw_const r_12_fails_49 ?_
              refine pw_istore (ls' := [some (vR 12 (0)), some (vI (set0)), some (vI (set1)), some (vI (t0)), some (vI (y0)), some (vI (a5)), some (vI (0)), some (vI (0)), some (vI (a8)), some (vI (1)), some (vI (0)), none]) r_12_fails_50 rfl rfl ?_
              have L52 : ∀ (nF : Nat) (i1 t1 y1 a6 a7 : Int) (g1 : Int → Int), (hi1 : 0 ≤ i1 ∧ i1 ≤ (gA G 243 0 (1))) → (hg1 : ∀ x, 0 ≤ x → x < (gF G 12 0 17) → g1 x = b2i ((exS (fun j => (gA G 242 0 (0 + j)) = x) set0 (gA G 243 0 (0)) ∨ exS (fun j => (gA G 242 0 (7 + j)) = x) set1 (i1)))) → (ht1 : (t1 = 1 ∧ ¬ (exS (fun j => (gA G 206 0 ((gA G 242 0 (0 + j)))) ≠ 0) set0 (gA G 243 0 (0)) ∨ exS (fun j => (gA G 206 0 ((gA G 242 0 (7 + j)))) ≠ 0) set1 (i1))) ∨ (t1 = 0 ∧ (exS (fun j => (gA G 206 0 ((gA G 242 0 (0 + j)))) ≠ 0) set0 (gA G 243 0 (0)) ∨ exS (fun j => (gA G 206 0 ((gA G 242 0 (7 + j)))) ≠ 0) set1 (i1)))) → (hy1 : (y1 = 1 ∧ (exS (fun j => ST (gA G 242 0 (0 + j)) (gF G 12 0 0) (gF G 12 0 0)) set0 (gA G 243 0 (0)) ∨ exS (fun j => ST (gA G 242 0 (7 + j)) (gF G 12 0 0) (gF G 12 0 0)) set1 (i1))) ∨ (y1 = 0 ∧ ¬ (exS (fun j => ST (gA G 242 0 (0 + j)) (gF G 12 0 0) (gF G 12 0 0)) set0 (gA G 243 0 (0)) ∨ exS (fun j => ST (gA G 242 0 (7 + j)) (gF G 12 0 0) (gF G 12 0 0)) set1 (i1)))) → (ha6 : a6 = smF (fun j => WT (gA G 242 0 (7 + j)) 0 (gF G 12 0 0) (gF G 12 0 0)) set1 i1) → (ha7 : a7 = smF (fun j => WT (gA G 242 0 (7 + j)) 1 (gF G 12 0 0) (gF G 12 0 0)) set1 i1) → ((gA G 243 0 (1)) - i1).toNat < nF → PW l w M_X12_fails (d + 3) 52 [some (vR 12 (0)), some (vI (set0)), some (vI (set1)), some (vI (t1)), some (vI (y1)), some (vI (a5)), some (vI (a6)), some (vI (a7)), some (vI (a8)), some (vI (1)), some (vI (i1)), none] [] (uA G 247 (0) (g1)) P := by
                intro nF
                induction nF with
                | zero => intro _ _ _ _ _ _ _ _ _ _ _ _ hM; exact absurd hM (Nat.not_lt_zero _)
                | succ nF ih52 =>
                  intro i1 t1 y1 a6 a7 g1 hi1 hg1 ht1 hy1 ha6 ha7 hM52
                  have hn1 := hof 1 (by decide) (by decide)
                  refine pw_iload r_12_fails_52 rfl ?_
                  refine pw_aload r_12_fails_54 rfl ?_
                  refine pw_getR r_12_fails_55 fs_12_61 (by decide) ?_
                  refine pw_iload r_12_fails_58 rfl ?_
                  refine pw_ialdv (v := gA G 243 (0) (1)) r_12_fails_60 sh243 (by omega) (by omega) (by first | rfl | simp [gF_sF, gF_sA, gF_uA, gF_sD, gA_sF, gA_sA, gA_uA, gA_sD, gD_sF, gD_sA, gD_uA, gD_sD]) ?_
                  refine pw_icmp_ge r_12_fails_61 (fun h61 => ?_) (fun h61 => ?_)
                  · skip
                    refine pw_iinc (b := 0) (ls' := [some (vR 12 (0)), some (vI (set0)), some (vI (set1)), some (vI (t1)), some (vI (y1)), some (vI (a5)), some (vI (a6)), some (vI (a7)), some (vI (a8)), some (vI (2)), some (vI (i1)), none]) r_12_fails_257 rfl rfl (by omega) rfl ?_
                    refine pw_goto r_12_fails_260 ?_
                    refine pw_iload r_12_fails_43 rfl ?_
                    refine pw_const r_12_fails_45 ?_
                    refine pw_icmp_ge r_12_fails_46 (fun h46 => ?_) (fun h46 => absurd h46 (by decide))
                    have e0 : i0 = (gA G 243 0 (0)) := by omega
                    have e1 : i1 = (gA G 243 0 (1)) := by omega
                    rw [e0] at ha5 ha8
                    rw [e1] at ha6 ha7 hg1 ht1 hy1
                    have k5 : a5 = wfM G WT 0 0 set0 := ha5
                    have k6 : a6 = wfM G WT 1 0 set1 := ha6
                    have k7 : a7 = wfM G WT 1 1 set1 := ha7
                    have k8 : a8 = wfM G WT 0 1 set0 := ha8
                    have kt : (t1 = 1 ∧ ¬ (awM G 0 set0 ∨ awM G 1 set1)) ∨ (t1 = 0 ∧ (awM G 0 set0 ∨ awM G 1 set1)) := ht1
                    have ky : (y1 = 1 ∧ (syM G ST 0 set0 ∨ syM G ST 1 set1)) ∨ (y1 = 0 ∧ ¬ (syM G ST 0 set0 ∨ syM G ST 1 set1)) := hy1
                    have kg : ∀ x, 0 ≤ x → x < (gF G 12 0 17) → g1 x = b2i (gonM G set0 set1 x) := fun x a b => (hg1 x a b).trans (b2i_iff gonM_ex.symm)
                    refine pw_iload r_12_fails_263 rfl ?_
                    refine pw_if_ne r_12_fails_264 (fun h264 => ?_) (fun h264 => ?_)
                    · skip
                      have na : ¬ (awM G 0 set0 ∨ awM G 1 set1) := by rcases kt with ⟨y, z⟩ | ⟨y, z⟩; exact z; omega
                      refine pw_iload r_12_fails_269 rfl ?_
                      refine pw_if_eq r_12_fails_271 (fun h271 => ?_) (fun h271 => ?_)
                      · skip
                        have ns : ¬ (syM G ST 0 set0 ∨ syM G ST 1 set1) := by rcases ky with ⟨y, z⟩ | ⟨y, z⟩; omega; exact z
                        refine pw_iload r_12_fails_276 rfl ?_
                        refine pw_iload r_12_fails_278 rfl ?_
                        refine pw_icmp_le r_12_fails_280 (fun h280 => ?_) (fun h280 => ?_)
                        · skip
                          refine pw_iload r_12_fails_285 rfl ?_
                          refine pw_iload r_12_fails_287 rfl ?_
                          refine pw_icmp_le r_12_fails_289 (fun h289 => ?_) (fun h289 => ?_)
                          · skip
                            refine pw_aload r_12_fails_294 rfl ?_
                            refine pw_callV (av := []) (st := []) (ls0 := [some (vR 12 (0)), none, none, none, none]) r_12_fails_295 rfl rfl rfl (Nat.le_refl _) ?_
                            refine sp_X12_partsChild (go := (gonM G set0 set1)) (by exact hsz) (by exact hof) (by exact hlv) (by exact hwi) (by exact hsA) (by exact kg) ?_
                            refine pw_top (b := b2i (pcM G (gonM G set0 set1))) (b2i_iff (Iff.rfl)) ?_
                            refine pw_if_eqB r_12_fails_298 (fun h298 => ?_) (fun h298 => ?_)
                            · skip
                              refine pw_aload r_12_fails_305 rfl ?_
                              refine pw_callV (av := []) (st := []) (ls0 := [some (vR 12 (0)), none, none, none, none, none, none]) r_12_fails_306 rfl rfl rfl (Nat.le_refl _) ?_
                              refine sp_X12_lacksDoctor (go := (gonM G set0 set1)) (by exact hsz) (by exact hc) (by exact hr) (by exact kg) ?_
                              refine pw_top (b := b2i (ldM G (gonM G set0 set1))) (b2i_iff (Iff.rfl)) ?_
                              refine pw_if_eqB r_12_fails_309 (fun h309 => ?_) (fun h309 => ?_)
                              · skip
                                refine pw_const r_12_fails_317 ?_
                                refine pw_iret r_12_fails_318 rfl (Nat.le_refl _) ⟨rfl, ?_⟩
                                exact pe (hP g1) (vd_0 na ns (by omega) (by omega) h298 h309).symm
                              · skip
                                refine pw_const r_12_fails_312 ?_
                                refine pw_goto r_12_fails_314 ?_
                                refine pw_iret r_12_fails_318 rfl (Nat.le_refl _) ⟨rfl, ?_⟩
                                exact pe (hP g1) (vd_6 na ns (by omega) (by omega) h298 h309).symm
                            · skip
                              refine pw_const r_12_fails_301 ?_
                              refine pw_goto r_12_fails_302 ?_
                              refine pw_iret r_12_fails_318 rfl (Nat.le_refl _) ⟨rfl, ?_⟩
                              exact pe (hP g1) (vd_5 na ns (by omega) (by omega) h298).symm
                          · skip
                            refine pw_const r_12_fails_292 ?_
                            refine pw_iret r_12_fails_293 rfl (Nat.le_refl _) ⟨rfl, ?_⟩
                            exact pe (hP g1) (vd_4 na ns (by omega) (by omega)).symm
                        · skip
                          refine pw_const r_12_fails_283 ?_
                          refine pw_iret r_12_fails_284 rfl (Nat.le_refl _) ⟨rfl, ?_⟩
                          exact pe (hP g1) (vd_3 na ns (by omega)).symm
                      · skip
                        have ns : syM G ST 0 set0 ∨ syM G ST 1 set1 := by rcases ky with ⟨y, z⟩ | ⟨y, z⟩; exact z; omega
                        refine pw_const r_12_fails_274 ?_
                        refine pw_iret r_12_fails_275 rfl (Nat.le_refl _) ⟨rfl, ?_⟩
                        exact pe (hP g1) (vd_2 na ns).symm
                    · skip
                      have na : awM G 0 set0 ∨ awM G 1 set1 := by rcases kt with ⟨y, z⟩ | ⟨y, z⟩; omega; exact z
                      refine pw_const r_12_fails_267 ?_
                      refine pw_iret r_12_fails_268 rfl (Nat.le_refl _) ⟨rfl, ?_⟩
                      exact pe (hP g1) (vd_1 na).symm
                  · skip
                    refine pw_const r_12_fails_64 ?_
                    refine pw_iload r_12_fails_66 rfl ?_
                    refine pw_imul r_12_fails_68 (by omega) ?_
                    refine pw_top (b := 7) (by decide) ?_
                    refine pw_iload r_12_fails_69 rfl ?_
                    refine pw_iadd r_12_fails_71 (by omega) ?_
                    refine pw_istore (ls' := [some (vR 12 (0)), some (vI (set0)), some (vI (set1)), some (vI (t1)), some (vI (y1)), some (vI (a5)), some (vI (a6)), some (vI (a7)), some (vI (a8)), some (vI (1)), some (vI (i1)), some (vI ((7 + i1)))]) r_12_fails_72 rfl rfl ?_
                    refine pw_iload r_12_fails_74 rfl ?_
                    refine pw_if_ne r_12_fails_76 (fun h76 => ?_) (fun h76 => absurd h76 (by decide))
                    refine pw_iload r_12_fails_83 rfl ?_
                    refine pw_iload r_12_fails_84 rfl ?_
                    refine pw_ishr r_12_fails_86 ?_
                    refine pw_const r_12_fails_87 ?_
                    refine pw_iand r_12_fails_88 ?_
                    refine pw_const r_12_fails_89 ?_
                    refine pw_icmp_ne r_12_fails_90 (fun h90 => ?_) (fun h90 => ?_)
                    · skip
                      have hb9 : ¬ bt set1 i1 := by rw [bt1]; omega
                      refine pw_iinc (b := 0) (ls' := [some (vR 12 (0)), some (vI (set0)), some (vI (set1)), some (vI (t1)), some (vI (y1)), some (vI (a5)), some (vI (a6)), some (vI (a7)), some (vI (a8)), some (vI (1)), some (vI ((i1 + 1))), some (vI ((7 + i1)))]) r_12_fails_251 rfl rfl (by omega) rfl ?_
                      refine pw_goto r_12_fails_254 ?_
                      refine pw_weakL (ls' := [some (vR 12 (0)), some (vI (set0)), some (vI (set1)), some (vI (t1)), some (vI (y1)), some (vI (a5)), some (vI (a6)), some (vI (a7)), some (vI (a8)), some (vI (1)), some (vI ((i1 + 1))), none]) (⟨rfl, ⟨rfl, ⟨rfl, ⟨rfl, ⟨rfl, ⟨rfl, ⟨rfl, ⟨rfl, ⟨rfl, ⟨rfl, ⟨rfl, trivial⟩⟩⟩⟩⟩⟩⟩⟩⟩⟩⟩) ?_
                      exact ih52 ((i1 + 1)) (t1) (y1) (a6) (a7) (g1) (by first | assumption | omega) (by intro x x0 x1; rw [hg1 x x0 x1]; exact b2i_iff (or_congr Iff.rfl (ex_f hb9)).symm) (by rw [propext (or_congr Iff.rfl (ex_f hb9))]; exact ht1) (by rw [propext (or_congr Iff.rfl (ex_f hb9))]; exact hy1) (by rw [sm_f hi1.1 hb9]; exact ha6) (by rw [sm_f hi1.1 hb9]; exact ha7) (by omega)
                    · skip
                      have hb9 : bt set1 i1 := by rw [bt1]; omega
                      have hpl := hlv 1 i1 (by decide) (by decide) hi1.1 (by omega)
                      have hf0 := hf9 1 i1 (by decide) (by decide) hi1.1 (by omega)
                      have hms : gA G 245 0 (7 + i1) = b2i (ST (gA G 242 0 (7 + i1)) (gF G 12 0 0) (gF G 12 0 0)) := hf0.1
                      have hw0 : gA G 246 0 (2 * (7 + i1)) = WT (gA G 242 0 (7 + i1)) 0 (gF G 12 0 0) (gF G 12 0 0) := hf0.2.1
                      have hw1 : gA G 246 0 (2 * (7 + i1) + 1) = WT (gA G 242 0 (7 + i1)) 1 (gF G 12 0 0) (gF G 12 0 0) := hf0.2.2
                      have hpl2 : 0 ≤ (gA G 242 0 (7 + i1)) ∧ (gA G 242 0 (7 + i1)) < (gF G 12 0 17) := hpl
                      refine pw_aload r_12_fails_93 rfl ?_
                      refine pw_getR r_12_fails_94 fs_12_67 (by decide) ?_
                      refine pw_aload r_12_fails_97 rfl ?_
                      refine pw_getR r_12_fails_98 fs_12_60 (by decide) ?_
                      refine pw_iload r_12_fails_101 rfl ?_
                      refine pw_ialdv (v := gA G 242 (0) ((7 + i1))) r_12_fails_103 sh242 (by omega) (by omega) (by first | rfl | simp [gF_sF, gF_sA, gF_uA, gF_sD, gA_sF, gA_sA, gA_uA, gA_sD, gD_sF, gD_sA, gD_uA, gD_sD]) ?_
                      refine pw_const r_12_fails_104 ?_
                      refine pw_zast r_12_fails_105 sh247 (by omega) (by omega) (by omega) ?_
                      refine pw_iload r_12_fails_106 rfl ?_
                      refine pw_if_eq r_12_fails_107 (fun h107 => ?_) (fun h107 => ?_)
                      · skip
                        refine pw_const r_12_fails_129 ?_
                        refine pw_istore (ls' := [some (vR 12 (0)), some (vI (set0)), some (vI (set1)), some (vI (0)), some (vI (y1)), some (vI (a5)), some (vI (a6)), some (vI (a7)), some (vI (a8)), some (vI (1)), some (vI (i1)), some (vI ((7 + i1)))]) r_12_fails_130 rfl rfl ?_
                        refine pw_iload r_12_fails_131 rfl ?_
                        refine pw_if_ne r_12_fails_133 (fun h133 => ?_) (fun h133 => ?_)
                        · skip
                          refine pw_const r_12_fails_146 ?_
                          refine pw_goto r_12_fails_147 ?_
                          refine pw_istore (ls' := [some (vR 12 (0)), some (vI (set0)), some (vI (set1)), some (vI (0)), some (vI (1)), some (vI (a5)), some (vI (a6)), some (vI (a7)), some (vI (a8)), some (vI (1)), some (vI (i1)), some (vI ((7 + i1)))]) r_12_fails_151 rfl rfl ?_
                          refine pw_iload r_12_fails_153 rfl ?_
                          refine pw_iload r_12_fails_155 rfl ?_
                          refine pw_if_ne r_12_fails_157 (fun h157 => ?_) (fun h157 => absurd h157 (by decide))
                          refine pw_const r_12_fails_172 ?_
                          refine pw_iaddW r_12_fails_173 ?_
                          refine pw_top (b := a5) (by rw [Int.add_zero, ha5]; exact wr_id (sm_in _ _ _)) ?_
                          refine pw_istore (ls' := [some (vR 12 (0)), some (vI (set0)), some (vI (set1)), some (vI (0)), some (vI (1)), some (vI (a5)), some (vI (a6)), some (vI (a7)), some (vI (a8)), some (vI (1)), some (vI (i1)), some (vI ((7 + i1)))]) r_12_fails_174 rfl rfl ?_
                          refine pw_iload r_12_fails_176 rfl ?_
                          refine pw_iload r_12_fails_178 rfl ?_
                          refine pw_const r_12_fails_180 ?_
                          refine pw_icmp_ne r_12_fails_181 (fun h181 => absurd h181 (by decide)) (fun h181 => ?_)
                          refine pw_aload r_12_fails_184 rfl ?_
                          refine pw_getR r_12_fails_185 fs_12_66 (by decide) ?_
                          refine pw_const r_12_fails_188 ?_
                          refine pw_iload r_12_fails_189 rfl ?_
                          refine pw_imul r_12_fails_191 (by omega) ?_
                          refine pw_ialdv (v := gA G 246 (0) ((2 * (7 + i1)))) r_12_fails_192 sh246 (by omega) (by omega) (by first | rfl | simp [gF_sF, gF_sA, gF_uA, gF_sD, gA_sF, gA_sA, gA_uA, gA_sD, gD_sF, gD_sA, gD_uA, gD_sD]) ?_
                          refine pw_goto r_12_fails_193 ?_
                          refine pw_iaddW r_12_fails_197 ?_
                          refine pw_istore (ls' := [some (vR 12 (0)), some (vI (set0)), some (vI (set1)), some (vI (0)), some (vI (1)), some (vI (a5)), some (vI (wr (a6 + (gA G 246 (0) ((2 * (7 + i1))))))), some (vI (a7)), some (vI (a8)), some (vI (1)), some (vI (i1)), some (vI ((7 + i1)))]) r_12_fails_198 rfl rfl ?_
                          refine pw_iload r_12_fails_200 rfl ?_
                          refine pw_iload r_12_fails_202 rfl ?_
                          refine pw_const r_12_fails_204 ?_
                          refine pw_icmp_ne r_12_fails_205 (fun h205 => absurd h205 (by decide)) (fun h205 => ?_)
                          refine pw_aload r_12_fails_208 rfl ?_
                          refine pw_getR r_12_fails_209 fs_12_66 (by decide) ?_
                          refine pw_const r_12_fails_212 ?_
                          refine pw_iload r_12_fails_213 rfl ?_
                          refine pw_imul r_12_fails_215 (by omega) ?_
                          refine pw_const r_12_fails_216 ?_
                          refine pw_iadd r_12_fails_217 (by omega) ?_
                          refine pw_ialdv (v := gA G 246 (0) (((2 * (7 + i1)) + 1))) r_12_fails_218 sh246 (by omega) (by omega) (by first | rfl | simp [gF_sF, gF_sA, gF_uA, gF_sD, gA_sF, gA_sA, gA_uA, gA_sD, gD_sF, gD_sA, gD_uA, gD_sD]) ?_
                          refine pw_goto r_12_fails_219 ?_
                          refine pw_iaddW r_12_fails_223 ?_
                          refine pw_istore (ls' := [some (vR 12 (0)), some (vI (set0)), some (vI (set1)), some (vI (0)), some (vI (1)), some (vI (a5)), some (vI (wr (a6 + (gA G 246 (0) ((2 * (7 + i1))))))), some (vI (wr (a7 + (gA G 246 (0) (((2 * (7 + i1)) + 1)))))), some (vI (a8)), some (vI (1)), some (vI (i1)), some (vI ((7 + i1)))]) r_12_fails_224 rfl rfl ?_
                          refine pw_iload r_12_fails_226 rfl ?_
                          refine pw_iload r_12_fails_228 rfl ?_
                          refine pw_if_ne r_12_fails_230 (fun h230 => ?_) (fun h230 => absurd h230 (by decide))
                          refine pw_const r_12_fails_247 ?_
                          refine pw_iaddW r_12_fails_248 ?_
                          refine pw_top (b := a8) (by rw [Int.add_zero, ha8]; exact wr_id (sm_in _ _ _)) ?_
                          refine pw_istore (ls' := [some (vR 12 (0)), some (vI (set0)), some (vI (set1)), some (vI (0)), some (vI (1)), some (vI (a5)), some (vI (wr (a6 + (gA G 246 (0) ((2 * (7 + i1))))))), some (vI (wr (a7 + (gA G 246 (0) (((2 * (7 + i1)) + 1)))))), some (vI (a8)), some (vI (1)), some (vI (i1)), some (vI ((7 + i1)))]) r_12_fails_249 rfl rfl ?_
                          refine pw_iinc (b := 0) (ls' := [some (vR 12 (0)), some (vI (set0)), some (vI (set1)), some (vI (0)), some (vI (1)), some (vI (a5)), some (vI (wr (a6 + (gA G 246 (0) ((2 * (7 + i1))))))), some (vI (wr (a7 + (gA G 246 (0) (((2 * (7 + i1)) + 1)))))), some (vI (a8)), some (vI (1)), some (vI ((i1 + 1))), some (vI ((7 + i1)))]) r_12_fails_251 rfl rfl (by omega) rfl ?_
                          refine pw_goto r_12_fails_254 ?_
                          refine pw_weakL (ls' := [some (vR 12 (0)), some (vI (set0)), some (vI (set1)), some (vI (0)), some (vI (1)), some (vI (a5)), some (vI (wr (a6 + (gA G 246 (0) ((2 * (7 + i1))))))), some (vI (wr (a7 + (gA G 246 (0) (((2 * (7 + i1)) + 1)))))), some (vI (a8)), some (vI (1)), some (vI ((i1 + 1))), none]) (⟨rfl, ⟨rfl, ⟨rfl, ⟨rfl, ⟨rfl, ⟨rfl, ⟨rfl, ⟨rfl, ⟨rfl, ⟨rfl, ⟨rfl, trivial⟩⟩⟩⟩⟩⟩⟩⟩⟩⟩⟩) ?_
                          refine pw_eqG (G' := uA G 247 (0) ((upA g1 (gA G 242 (0) ((7 + i1))) 1))) (by first | (rw [sA_uA]; done)) ?_
                          exact ih52 ((i1 + 1)) (0) (1) (wr (a6 + (gA G 246 (0) ((2 * (7 + i1)))))) (wr (a7 + (gA G 246 (0) (((2 * (7 + i1)) + 1))))) ((upA g1 (gA G 242 (0) ((7 + i1))) 1)) (by first | assumption | omega) (by intro x x0 x1; by_cases z : x = (gA G 242 0 (7 + i1)); rw [z, upA_same]; exact (b2i_t ((or_congr Iff.rfl (ex_t (Q := fun j => (gA G 242 0 (7 + j)) = (gA G 242 0 (7 + i1))) hi1.1 hb9)).mpr (Or.inr (Or.inr rfl)))).symm; rw [upA_ne z, hg1 x x0 x1]; exact b2i_iff ⟨fun y => (or_congr Iff.rfl (ex_t hi1.1 hb9)).mpr (y.imp id Or.inl), fun y => by have y2 := (or_congr Iff.rfl (ex_t hi1.1 hb9)).mp y; exact y2.imp id (fun q => q.resolve_right (fun q => z q.symm))⟩) (by rw [propext (or_congr Iff.rfl (ex_t hi1.1 hb9))]; rcases ht1 with ⟨y1, y2⟩ | ⟨y1, y⟩; by_cases q9 : (gA G 206 0 ((gA G 242 0 (7 + i1)))) ≠ 0; exact Or.inr ⟨by omega, Or.inr (Or.inr q9)⟩; exact Or.inl ⟨by omega, (have q8 := q9; fun z => z.elim (fun a => y2 (Or.inl a)) (fun a => a.elim (fun b => y2 (Or.inr b)) q8))⟩; exact Or.inr ⟨by omega, y.imp id Or.inl⟩) (by rw [propext (or_congr Iff.rfl (ex_t hi1.1 hb9))]; rcases hy1 with ⟨y1, y⟩ | ⟨y1, y2⟩; exact Or.inl ⟨by omega, y.imp id Or.inl⟩; by_cases q9 : ST (gA G 242 0 (7 + i1)) (gF G 12 0 0) (gF G 12 0 0); exact Or.inl ⟨by have q7 := hms.trans (b2i_t q9); omega, Or.inr (Or.inr q9)⟩; exact Or.inr ⟨by have q7 := hms.trans (b2i_f q9); omega, (have q8 := q9; fun z => z.elim (fun a => y2 (Or.inl a)) (fun a => a.elim (fun b => y2 (Or.inr b)) q8))⟩) (by rw [sm_t hi1.1 hb9, ← ha6, ← hw0]) (by rw [sm_t hi1.1 hb9, ← ha7, ← hw1]) (by omega)
                        · skip
                          refine pw_aload r_12_fails_136 rfl ?_
                          refine pw_getR r_12_fails_137 fs_12_65 (by decide) ?_
                          refine pw_iload r_12_fails_140 rfl ?_
                          refine pw_zaldv (v := gA G 245 (0) ((7 + i1))) r_12_fails_142 sh245 (by omega) (by omega) (by first | rfl | simp [gF_sF, gF_sA, gF_uA, gF_sD, gA_sF, gA_sA, gA_uA, gA_sD, gD_sF, gD_sA, gD_uA, gD_sD]) ?_
                          refine pw_if_eq r_12_fails_143 (fun h143 => ?_) (fun h143 => ?_)
                          · skip
                            refine pw_const r_12_fails_150 ?_
                            refine pw_istore (ls' := [some (vR 12 (0)), some (vI (set0)), some (vI (set1)), some (vI (0)), some (vI (0)), some (vI (a5)), some (vI (a6)), some (vI (a7)), some (vI (a8)), some (vI (1)), some (vI (i1)), some (vI ((7 + i1)))]) r_12_fails_151 rfl rfl ?_
                            refine pw_iload r_12_fails_153 rfl ?_
                            refine pw_iload r_12_fails_155 rfl ?_
                            refine pw_if_ne r_12_fails_157 (fun h157 => ?_) (fun h157 => absurd h157 (by decide))
                            refine pw_const r_12_fails_172 ?_
                            refine pw_iaddW r_12_fails_173 ?_
                            refine pw_top (b := a5) (by rw [Int.add_zero, ha5]; exact wr_id (sm_in _ _ _)) ?_
                            refine pw_istore (ls' := [some (vR 12 (0)), some (vI (set0)), some (vI (set1)), some (vI (0)), some (vI (0)), some (vI (a5)), some (vI (a6)), some (vI (a7)), some (vI (a8)), some (vI (1)), some (vI (i1)), some (vI ((7 + i1)))]) r_12_fails_174 rfl rfl ?_
                            refine pw_iload r_12_fails_176 rfl ?_
                            refine pw_iload r_12_fails_178 rfl ?_
                            refine pw_const r_12_fails_180 ?_
                            refine pw_icmp_ne r_12_fails_181 (fun h181 => absurd h181 (by decide)) (fun h181 => ?_)
                            refine pw_aload r_12_fails_184 rfl ?_
                            refine pw_getR r_12_fails_185 fs_12_66 (by decide) ?_
                            refine pw_const r_12_fails_188 ?_
                            refine pw_iload r_12_fails_189 rfl ?_
                            refine pw_imul r_12_fails_191 (by omega) ?_
                            refine pw_ialdv (v := gA G 246 (0) ((2 * (7 + i1)))) r_12_fails_192 sh246 (by omega) (by omega) (by first | rfl | simp [gF_sF, gF_sA, gF_uA, gF_sD, gA_sF, gA_sA, gA_uA, gA_sD, gD_sF, gD_sA, gD_uA, gD_sD]) ?_
                            refine pw_goto r_12_fails_193 ?_
                            refine pw_iaddW r_12_fails_197 ?_
                            refine pw_istore (ls' := [some (vR 12 (0)), some (vI (set0)), some (vI (set1)), some (vI (0)), some (vI (0)), some (vI (a5)), some (vI (wr (a6 + (gA G 246 (0) ((2 * (7 + i1))))))), some (vI (a7)), some (vI (a8)), some (vI (1)), some (vI (i1)), some (vI ((7 + i1)))]) r_12_fails_198 rfl rfl ?_
                            refine pw_iload r_12_fails_200 rfl ?_
                            refine pw_iload r_12_fails_202 rfl ?_
                            refine pw_const r_12_fails_204 ?_
                            refine pw_icmp_ne r_12_fails_205 (fun h205 => absurd h205 (by decide)) (fun h205 => ?_)
                            refine pw_aload r_12_fails_208 rfl ?_
                            refine pw_getR r_12_fails_209 fs_12_66 (by decide) ?_
                            refine pw_const r_12_fails_212 ?_
                            refine pw_iload r_12_fails_213 rfl ?_
                            refine pw_imul r_12_fails_215 (by omega) ?_
                            refine pw_const r_12_fails_216 ?_
                            refine pw_iadd r_12_fails_217 (by omega) ?_
                            refine pw_ialdv (v := gA G 246 (0) (((2 * (7 + i1)) + 1))) r_12_fails_218 sh246 (by omega) (by omega) (by first | rfl | simp [gF_sF, gF_sA, gF_uA, gF_sD, gA_sF, gA_sA, gA_uA, gA_sD, gD_sF, gD_sA, gD_uA, gD_sD]) ?_
                            refine pw_goto r_12_fails_219 ?_
                            refine pw_iaddW r_12_fails_223 ?_
                            refine pw_istore (ls' := [some (vR 12 (0)), some (vI (set0)), some (vI (set1)), some (vI (0)), some (vI (0)), some (vI (a5)), some (vI (wr (a6 + (gA G 246 (0) ((2 * (7 + i1))))))), some (vI (wr (a7 + (gA G 246 (0) (((2 * (7 + i1)) + 1)))))), some (vI (a8)), some (vI (1)), some (vI (i1)), some (vI ((7 + i1)))]) r_12_fails_224 rfl rfl ?_
                            refine pw_iload r_12_fails_226 rfl ?_
                            refine pw_iload r_12_fails_228 rfl ?_
                            refine pw_if_ne r_12_fails_230 (fun h230 => ?_) (fun h230 => absurd h230 (by decide))
                            refine pw_const r_12_fails_247 ?_
                            refine pw_iaddW r_12_fails_248 ?_
                            refine pw_top (b := a8) (by rw [Int.add_zero, ha8]; exact wr_id (sm_in _ _ _)) ?_
                            refine pw_istore (ls' := [some (vR 12 (0)), some (vI (set0)), some (vI (set1)), some (vI (0)), some (vI (0)), some (vI (a5)), some (vI (wr (a6 + (gA G 246 (0) ((2 * (7 + i1))))))), some (vI (wr (a7 + (gA G 246 (0) (((2 * (7 + i1)) + 1)))))), some (vI (a8)), some (vI (1)), some (vI (i1)), some (vI ((7 + i1)))]) r_12_fails_249 rfl rfl ?_
                            refine pw_iinc (b := 0) (ls' := [some (vR 12 (0)), some (vI (set0)), some (vI (set1)), some (vI (0)), some (vI (0)), some (vI (a5)), some (vI (wr (a6 + (gA G 246 (0) ((2 * (7 + i1))))))), some (vI (wr (a7 + (gA G 246 (0) (((2 * (7 + i1)) + 1)))))), some (vI (a8)), some (vI (1)), some (vI ((i1 + 1))), some (vI ((7 + i1)))]) r_12_fails_251 rfl rfl (by omega) rfl ?_
                            refine pw_goto r_12_fails_254 ?_
                            refine pw_weakL (ls' := [some (vR 12 (0)), some (vI (set0)), some (vI (set1)), some (vI (0)), some (vI (0)), some (vI (a5)), some (vI (wr (a6 + (gA G 246 (0) ((2 * (7 + i1))))))), some (vI (wr (a7 + (gA G 246 (0) (((2 * (7 + i1)) + 1)))))), some (vI (a8)), some (vI (1)), some (vI ((i1 + 1))), none]) (⟨rfl, ⟨rfl, ⟨rfl, ⟨rfl, ⟨rfl, ⟨rfl, ⟨rfl, ⟨rfl, ⟨rfl, ⟨rfl, ⟨rfl, trivial⟩⟩⟩⟩⟩⟩⟩⟩⟩⟩⟩) ?_
                            refine pw_eqG (G' := uA G 247 (0) ((upA g1 (gA G 242 (0) ((7 + i1))) 1))) (by first | (rw [sA_uA]; done)) ?_
                            exact ih52 ((i1 + 1)) (0) (0) (wr (a6 + (gA G 246 (0) ((2 * (7 + i1)))))) (wr (a7 + (gA G 246 (0) (((2 * (7 + i1)) + 1))))) ((upA g1 (gA G 242 (0) ((7 + i1))) 1)) (by first | assumption | omega) (by intro x x0 x1; by_cases z : x = (gA G 242 0 (7 + i1)); rw [z, upA_same]; exact (b2i_t ((or_congr Iff.rfl (ex_t (Q := fun j => (gA G 242 0 (7 + j)) = (gA G 242 0 (7 + i1))) hi1.1 hb9)).mpr (Or.inr (Or.inr rfl)))).symm; rw [upA_ne z, hg1 x x0 x1]; exact b2i_iff ⟨fun y => (or_congr Iff.rfl (ex_t hi1.1 hb9)).mpr (y.imp id Or.inl), fun y => by have y2 := (or_congr Iff.rfl (ex_t hi1.1 hb9)).mp y; exact y2.imp id (fun q => q.resolve_right (fun q => z q.symm))⟩) (by rw [propext (or_congr Iff.rfl (ex_t hi1.1 hb9))]; rcases ht1 with ⟨y1, y2⟩ | ⟨y1, y⟩; by_cases q9 : (gA G 206 0 ((gA G 242 0 (7 + i1)))) ≠ 0; exact Or.inr ⟨by omega, Or.inr (Or.inr q9)⟩; exact Or.inl ⟨by omega, (have q8 := q9; fun z => z.elim (fun a => y2 (Or.inl a)) (fun a => a.elim (fun b => y2 (Or.inr b)) q8))⟩; exact Or.inr ⟨by omega, y.imp id Or.inl⟩) (by rw [propext (or_congr Iff.rfl (ex_t hi1.1 hb9))]; rcases hy1 with ⟨y1, y⟩ | ⟨y1, y2⟩; exact Or.inl ⟨by omega, y.imp id Or.inl⟩; by_cases q9 : ST (gA G 242 0 (7 + i1)) (gF G 12 0 0) (gF G 12 0 0); exact Or.inl ⟨by have q7 := hms.trans (b2i_t q9); omega, Or.inr (Or.inr q9)⟩; exact Or.inr ⟨by have q7 := hms.trans (b2i_f q9); omega, (have q8 := q9; fun z => z.elim (fun a => y2 (Or.inl a)) (fun a => a.elim (fun b => y2 (Or.inr b)) q8))⟩) (by rw [sm_t hi1.1 hb9, ← ha6, ← hw0]) (by rw [sm_t hi1.1 hb9, ← ha7, ← hw1]) (by omega)
                          · skip
                            refine pw_const r_12_fails_146 ?_
                            refine pw_goto r_12_fails_147 ?_
                            refine pw_istore (ls' := [some (vR 12 (0)), some (vI (set0)), some (vI (set1)), some (vI (0)), some (vI (1)), some (vI (a5)), some (vI (a6)), some (vI (a7)), some (vI (a8)), some (vI (1)), some (vI (i1)), some (vI ((7 + i1)))]) r_12_fails_151 rfl rfl ?_
                            refine pw_iload r_12_fails_153 rfl ?_
                            refine pw_iload r_12_fails_155 rfl ?_
                            refine pw_if_ne r_12_fails_157 (fun h157 => ?_) (fun h157 => absurd h157 (by decide))
                            refine pw_const r_12_fails_172 ?_
                            refine pw_iaddW r_12_fails_173 ?_
                            refine pw_top (b := a5) (by rw [Int.add_zero, ha5]; exact wr_id (sm_in _ _ _)) ?_
                            refine pw_istore (ls' := [some (vR 12 (0)), some (vI (set0)), some (vI (set1)), some (vI (0)), some (vI (1)), some (vI (a5)), some (vI (a6)), some (vI (a7)), some (vI (a8)), some (vI (1)), some (vI (i1)), some (vI ((7 + i1)))]) r_12_fails_174 rfl rfl ?_
                            refine pw_iload r_12_fails_176 rfl ?_
                            refine pw_iload r_12_fails_178 rfl ?_
                            refine pw_const r_12_fails_180 ?_
                            refine pw_icmp_ne r_12_fails_181 (fun h181 => absurd h181 (by decide)) (fun h181 => ?_)
                            refine pw_aload r_12_fails_184 rfl ?_
                            refine pw_getR r_12_fails_185 fs_12_66 (by decide) ?_
                            refine pw_const r_12_fails_188 ?_
                            refine pw_iload r_12_fails_189 rfl ?_
                            refine pw_imul r_12_fails_191 (by omega) ?_
                            refine pw_ialdv (v := gA G 246 (0) ((2 * (7 + i1)))) r_12_fails_192 sh246 (by omega) (by omega) (by first | rfl | simp [gF_sF, gF_sA, gF_uA, gF_sD, gA_sF, gA_sA, gA_uA, gA_sD, gD_sF, gD_sA, gD_uA, gD_sD]) ?_
                            refine pw_goto r_12_fails_193 ?_
                            refine pw_iaddW r_12_fails_197 ?_
                            refine pw_istore (ls' := [some (vR 12 (0)), some (vI (set0)), some (vI (set1)), some (vI (0)), some (vI (1)), some (vI (a5)), some (vI (wr (a6 + (gA G 246 (0) ((2 * (7 + i1))))))), some (vI (a7)), some (vI (a8)), some (vI (1)), some (vI (i1)), some (vI ((7 + i1)))]) r_12_fails_198 rfl rfl ?_
                            refine pw_iload r_12_fails_200 rfl ?_
                            refine pw_iload r_12_fails_202 rfl ?_
                            refine pw_const r_12_fails_204 ?_
                            refine pw_icmp_ne r_12_fails_205 (fun h205 => absurd h205 (by decide)) (fun h205 => ?_)
                            refine pw_aload r_12_fails_208 rfl ?_
                            refine pw_getR r_12_fails_209 fs_12_66 (by decide) ?_
                            refine pw_const r_12_fails_212 ?_
                            refine pw_iload r_12_fails_213 rfl ?_
                            refine pw_imul r_12_fails_215 (by omega) ?_
                            refine pw_const r_12_fails_216 ?_
                            refine pw_iadd r_12_fails_217 (by omega) ?_
                            refine pw_ialdv (v := gA G 246 (0) (((2 * (7 + i1)) + 1))) r_12_fails_218 sh246 (by omega) (by omega) (by first | rfl | simp [gF_sF, gF_sA, gF_uA, gF_sD, gA_sF, gA_sA, gA_uA, gA_sD, gD_sF, gD_sA, gD_uA, gD_sD]) ?_
                            refine pw_goto r_12_fails_219 ?_
                            refine pw_iaddW r_12_fails_223 ?_
                            refine pw_istore (ls' := [some (vR 12 (0)), some (vI (set0)), some (vI (set1)), some (vI (0)), some (vI (1)), some (vI (a5)), some (vI (wr (a6 + (gA G 246 (0) ((2 * (7 + i1))))))), some (vI (wr (a7 + (gA G 246 (0) (((2 * (7 + i1)) + 1)))))), some (vI (a8)), some (vI (1)), some (vI (i1)), some (vI ((7 + i1)))]) r_12_fails_224 rfl rfl ?_
                            refine pw_iload r_12_fails_226 rfl ?_
                            refine pw_iload r_12_fails_228 rfl ?_
                            refine pw_if_ne r_12_fails_230 (fun h230 => ?_) (fun h230 => absurd h230 (by decide))
                            refine pw_const r_12_fails_247 ?_
                            refine pw_iaddW r_12_fails_248 ?_
                            refine pw_top (b := a8) (by rw [Int.add_zero, ha8]; exact wr_id (sm_in _ _ _)) ?_
                            refine pw_istore (ls' := [some (vR 12 (0)), some (vI (set0)), some (vI (set1)), some (vI (0)), some (vI (1)), some (vI (a5)), some (vI (wr (a6 + (gA G 246 (0) ((2 * (7 + i1))))))), some (vI (wr (a7 + (gA G 246 (0) (((2 * (7 + i1)) + 1)))))), some (vI (a8)), some (vI (1)), some (vI (i1)), some (vI ((7 + i1)))]) r_12_fails_249 rfl rfl ?_
                            refine pw_iinc (b := 0) (ls' := [some (vR 12 (0)), some (vI (set0)), some (vI (set1)), some (vI (0)), some (vI (1)), some (vI (a5)), some (vI (wr (a6 + (gA G 246 (0) ((2 * (7 + i1))))))), some (vI (wr (a7 + (gA G 246 (0) (((2 * (7 + i1)) + 1)))))), some (vI (a8)), some (vI (1)), some (vI ((i1 + 1))), some (vI ((7 + i1)))]) r_12_fails_251 rfl rfl (by omega) rfl ?_
                            refine pw_goto r_12_fails_254 ?_
                            refine pw_weakL (ls' := [some (vR 12 (0)), some (vI (set0)), some (vI (set1)), some (vI (0)), some (vI (1)), some (vI (a5)), some (vI (wr (a6 + (gA G 246 (0) ((2 * (7 + i1))))))), some (vI (wr (a7 + (gA G 246 (0) (((2 * (7 + i1)) + 1)))))), some (vI (a8)), some (vI (1)), some (vI ((i1 + 1))), none]) (⟨rfl, ⟨rfl, ⟨rfl, ⟨rfl, ⟨rfl, ⟨rfl, ⟨rfl, ⟨rfl, ⟨rfl, ⟨rfl, ⟨rfl, trivial⟩⟩⟩⟩⟩⟩⟩⟩⟩⟩⟩) ?_
                            refine pw_eqG (G' := uA G 247 (0) ((upA g1 (gA G 242 (0) ((7 + i1))) 1))) (by first | (rw [sA_uA]; done)) ?_
                            exact ih52 ((i1 + 1)) (0) (1) (wr (a6 + (gA G 246 (0) ((2 * (7 + i1)))))) (wr (a7 + (gA G 246 (0) (((2 * (7 + i1)) + 1))))) ((upA g1 (gA G 242 (0) ((7 + i1))) 1)) (by first | assumption | omega) (by intro x x0 x1; by_cases z : x = (gA G 242 0 (7 + i1)); rw [z, upA_same]; exact (b2i_t ((or_congr Iff.rfl (ex_t (Q := fun j => (gA G 242 0 (7 + j)) = (gA G 242 0 (7 + i1))) hi1.1 hb9)).mpr (Or.inr (Or.inr rfl)))).symm; rw [upA_ne z, hg1 x x0 x1]; exact b2i_iff ⟨fun y => (or_congr Iff.rfl (ex_t hi1.1 hb9)).mpr (y.imp id Or.inl), fun y => by have y2 := (or_congr Iff.rfl (ex_t hi1.1 hb9)).mp y; exact y2.imp id (fun q => q.resolve_right (fun q => z q.symm))⟩) (by rw [propext (or_congr Iff.rfl (ex_t hi1.1 hb9))]; rcases ht1 with ⟨y1, y2⟩ | ⟨y1, y⟩; by_cases q9 : (gA G 206 0 ((gA G 242 0 (7 + i1)))) ≠ 0; exact Or.inr ⟨by omega, Or.inr (Or.inr q9)⟩; exact Or.inl ⟨by omega, (have q8 := q9; fun z => z.elim (fun a => y2 (Or.inl a)) (fun a => a.elim (fun b => y2 (Or.inr b)) q8))⟩; exact Or.inr ⟨by omega, y.imp id Or.inl⟩) (by rw [propext (or_congr Iff.rfl (ex_t hi1.1 hb9))]; rcases hy1 with ⟨y1, y⟩ | ⟨y1, y2⟩; exact Or.inl ⟨by omega, y.imp id Or.inl⟩; by_cases q9 : ST (gA G 242 0 (7 + i1)) (gF G 12 0 0) (gF G 12 0 0); exact Or.inl ⟨by have q7 := hms.trans (b2i_t q9); omega, Or.inr (Or.inr q9)⟩; exact Or.inr ⟨by have q7 := hms.trans (b2i_f q9); omega, (have q8 := q9; fun z => z.elim (fun a => y2 (Or.inl a)) (fun a => a.elim (fun b => y2 (Or.inr b)) q8))⟩) (by rw [sm_t hi1.1 hb9, ← ha6, ← hw0]) (by rw [sm_t hi1.1 hb9, ← ha7, ← hw1]) (by omega)
                      · skip
                        refine pw_aload r_12_fails_110 rfl ?_
                        refine pw_getR r_12_fails_111 fs_12_8 (by decide) ?_
                        refine pw_aload r_12_fails_114 rfl ?_
                        refine pw_getR r_12_fails_115 fs_12_60 (by decide) ?_
                        refine pw_iload r_12_fails_118 rfl ?_
                        refine pw_ialdv (v := gA G 242 (0) ((7 + i1))) r_12_fails_120 sh242 (by omega) (by omega) (by first | rfl | simp [gF_sF, gF_sA, gF_uA, gF_sD, gA_sF, gA_sA, gA_uA, gA_sD, gD_sF, gD_sA, gD_uA, gD_sD]) ?_
                        refine pw_ialdv (v := gA G 206 (0) (gA G 242 (0) ((7 + i1)))) r_12_fails_121 sh206 (by omega) (by omega) (by first | rfl | simp [gF_sF, gF_sA, gF_uA, gF_sD, gA_sF, gA_sA, gA_uA, gA_sD, gD_sF, gD_sA, gD_uA, gD_sD]) ?_
                        refine pw_if_ne r_12_fails_122 (fun h122 => ?_) (fun h122 => ?_)
                        · skip
                          refine pw_const r_12_fails_129 ?_
                          refine pw_istore (ls' := [some (vR 12 (0)), some (vI (set0)), some (vI (set1)), some (vI (0)), some (vI (y1)), some (vI (a5)), some (vI (a6)), some (vI (a7)), some (vI (a8)), some (vI (1)), some (vI (i1)), some (vI ((7 + i1)))]) r_12_fails_130 rfl rfl ?_
                          refine pw_iload r_12_fails_131 rfl ?_
                          refine pw_if_ne r_12_fails_133 (fun h133 => ?_) (fun h133 => ?_)
                          · skip
                            refine pw_const r_12_fails_146 ?_
                            refine pw_goto r_12_fails_147 ?_
                            refine pw_istore (ls' := [some (vR 12 (0)), some (vI (set0)), some (vI (set1)), some (vI (0)), some (vI (1)), some (vI (a5)), some (vI (a6)), some (vI (a7)), some (vI (a8)), some (vI (1)), some (vI (i1)), some (vI ((7 + i1)))]) r_12_fails_151 rfl rfl ?_
                            refine pw_iload r_12_fails_153 rfl ?_
                            refine pw_iload r_12_fails_155 rfl ?_
                            refine pw_if_ne r_12_fails_157 (fun h157 => ?_) (fun h157 => absurd h157 (by decide))
                            refine pw_const r_12_fails_172 ?_
                            refine pw_iaddW r_12_fails_173 ?_
                            refine pw_top (b := a5) (by rw [Int.add_zero, ha5]; exact wr_id (sm_in _ _ _)) ?_
                            refine pw_istore (ls' := [some (vR 12 (0)), some (vI (set0)), some (vI (set1)), some (vI (0)), some (vI (1)), some (vI (a5)), some (vI (a6)), some (vI (a7)), some (vI (a8)), some (vI (1)), some (vI (i1)), some (vI ((7 + i1)))]) r_12_fails_174 rfl rfl ?_
                            refine pw_iload r_12_fails_176 rfl ?_
                            refine pw_iload r_12_fails_178 rfl ?_
                            refine pw_const r_12_fails_180 ?_
                            refine pw_icmp_ne r_12_fails_181 (fun h181 => absurd h181 (by decide)) (fun h181 => ?_)
                            refine pw_aload r_12_fails_184 rfl ?_
                            refine pw_getR r_12_fails_185 fs_12_66 (by decide) ?_
                            refine pw_const r_12_fails_188 ?_
                            refine pw_iload r_12_fails_189 rfl ?_
                            refine pw_imul r_12_fails_191 (by omega) ?_
                            refine pw_ialdv (v := gA G 246 (0) ((2 * (7 + i1)))) r_12_fails_192 sh246 (by omega) (by omega) (by first | rfl | simp [gF_sF, gF_sA, gF_uA, gF_sD, gA_sF, gA_sA, gA_uA, gA_sD, gD_sF, gD_sA, gD_uA, gD_sD]) ?_
                            refine pw_goto r_12_fails_193 ?_
                            refine pw_iaddW r_12_fails_197 ?_
                            refine pw_istore (ls' := [some (vR 12 (0)), some (vI (set0)), some (vI (set1)), some (vI (0)), some (vI (1)), some (vI (a5)), some (vI (wr (a6 + (gA G 246 (0) ((2 * (7 + i1))))))), some (vI (a7)), some (vI (a8)), some (vI (1)), some (vI (i1)), some (vI ((7 + i1)))]) r_12_fails_198 rfl rfl ?_
                            refine pw_iload r_12_fails_200 rfl ?_
                            refine pw_iload r_12_fails_202 rfl ?_
                            refine pw_const r_12_fails_204 ?_
                            refine pw_icmp_ne r_12_fails_205 (fun h205 => absurd h205 (by decide)) (fun h205 => ?_)
                            refine pw_aload r_12_fails_208 rfl ?_
                            refine pw_getR r_12_fails_209 fs_12_66 (by decide) ?_
                            refine pw_const r_12_fails_212 ?_
                            refine pw_iload r_12_fails_213 rfl ?_
                            refine pw_imul r_12_fails_215 (by omega) ?_
                            refine pw_const r_12_fails_216 ?_
                            refine pw_iadd r_12_fails_217 (by omega) ?_
                            refine pw_ialdv (v := gA G 246 (0) (((2 * (7 + i1)) + 1))) r_12_fails_218 sh246 (by omega) (by omega) (by first | rfl | simp [gF_sF, gF_sA, gF_uA, gF_sD, gA_sF, gA_sA, gA_uA, gA_sD, gD_sF, gD_sA, gD_uA, gD_sD]) ?_
                            refine pw_goto r_12_fails_219 ?_
                            refine pw_iaddW r_12_fails_223 ?_
                            refine pw_istore (ls' := [some (vR 12 (0)), some (vI (set0)), some (vI (set1)), some (vI (0)), some (vI (1)), some (vI (a5)), some (vI (wr (a6 + (gA G 246 (0) ((2 * (7 + i1))))))), some (vI (wr (a7 + (gA G 246 (0) (((2 * (7 + i1)) + 1)))))), some (vI (a8)), some (vI (1)), some (vI (i1)), some (vI ((7 + i1)))]) r_12_fails_224 rfl rfl ?_
                            refine pw_iload r_12_fails_226 rfl ?_
                            refine pw_iload r_12_fails_228 rfl ?_
                            refine pw_if_ne r_12_fails_230 (fun h230 => ?_) (fun h230 => absurd h230 (by decide))
                            refine pw_const r_12_fails_247 ?_
                            refine pw_iaddW r_12_fails_248 ?_
                            refine pw_top (b := a8) (by rw [Int.add_zero, ha8]; exact wr_id (sm_in _ _ _)) ?_
                            refine pw_istore (ls' := [some (vR 12 (0)), some (vI (set0)), some (vI (set1)), some (vI (0)), some (vI (1)), some (vI (a5)), some (vI (wr (a6 + (gA G 246 (0) ((2 * (7 + i1))))))), some (vI (wr (a7 + (gA G 246 (0) (((2 * (7 + i1)) + 1)))))), some (vI (a8)), some (vI (1)), some (vI (i1)), some (vI ((7 + i1)))]) r_12_fails_249 rfl rfl ?_
                            refine pw_iinc (b := 0) (ls' := [some (vR 12 (0)), some (vI (set0)), some (vI (set1)), some (vI (0)), some (vI (1)), some (vI (a5)), some (vI (wr (a6 + (gA G 246 (0) ((2 * (7 + i1))))))), some (vI (wr (a7 + (gA G 246 (0) (((2 * (7 + i1)) + 1)))))), some (vI (a8)), some (vI (1)), some (vI ((i1 + 1))), some (vI ((7 + i1)))]) r_12_fails_251 rfl rfl (by omega) rfl ?_
                            refine pw_goto r_12_fails_254 ?_
                            refine pw_weakL (ls' := [some (vR 12 (0)), some (vI (set0)), some (vI (set1)), some (vI (0)), some (vI (1)), some (vI (a5)), some (vI (wr (a6 + (gA G 246 (0) ((2 * (7 + i1))))))), some (vI (wr (a7 + (gA G 246 (0) (((2 * (7 + i1)) + 1)))))), some (vI (a8)), some (vI (1)), some (vI ((i1 + 1))), none]) (⟨rfl, ⟨rfl, ⟨rfl, ⟨rfl, ⟨rfl, ⟨rfl, ⟨rfl, ⟨rfl, ⟨rfl, ⟨rfl, ⟨rfl, trivial⟩⟩⟩⟩⟩⟩⟩⟩⟩⟩⟩) ?_
                            refine pw_eqG (G' := uA G 247 (0) ((upA g1 (gA G 242 (0) ((7 + i1))) 1))) (by first | (rw [sA_uA]; done)) ?_
                            exact ih52 ((i1 + 1)) (0) (1) (wr (a6 + (gA G 246 (0) ((2 * (7 + i1)))))) (wr (a7 + (gA G 246 (0) (((2 * (7 + i1)) + 1))))) ((upA g1 (gA G 242 (0) ((7 + i1))) 1)) (by first | assumption | omega) (by intro x x0 x1; by_cases z : x = (gA G 242 0 (7 + i1)); rw [z, upA_same]; exact (b2i_t ((or_congr Iff.rfl (ex_t (Q := fun j => (gA G 242 0 (7 + j)) = (gA G 242 0 (7 + i1))) hi1.1 hb9)).mpr (Or.inr (Or.inr rfl)))).symm; rw [upA_ne z, hg1 x x0 x1]; exact b2i_iff ⟨fun y => (or_congr Iff.rfl (ex_t hi1.1 hb9)).mpr (y.imp id Or.inl), fun y => by have y2 := (or_congr Iff.rfl (ex_t hi1.1 hb9)).mp y; exact y2.imp id (fun q => q.resolve_right (fun q => z q.symm))⟩) (by rw [propext (or_congr Iff.rfl (ex_t hi1.1 hb9))]; rcases ht1 with ⟨y1, y2⟩ | ⟨y1, y⟩; by_cases q9 : (gA G 206 0 ((gA G 242 0 (7 + i1)))) ≠ 0; exact Or.inr ⟨by omega, Or.inr (Or.inr q9)⟩; exact Or.inl ⟨by omega, (have q8 := q9; fun z => z.elim (fun a => y2 (Or.inl a)) (fun a => a.elim (fun b => y2 (Or.inr b)) q8))⟩; exact Or.inr ⟨by omega, y.imp id Or.inl⟩) (by rw [propext (or_congr Iff.rfl (ex_t hi1.1 hb9))]; rcases hy1 with ⟨y1, y⟩ | ⟨y1, y2⟩; exact Or.inl ⟨by omega, y.imp id Or.inl⟩; by_cases q9 : ST (gA G 242 0 (7 + i1)) (gF G 12 0 0) (gF G 12 0 0); exact Or.inl ⟨by have q7 := hms.trans (b2i_t q9); omega, Or.inr (Or.inr q9)⟩; exact Or.inr ⟨by have q7 := hms.trans (b2i_f q9); omega, (have q8 := q9; fun z => z.elim (fun a => y2 (Or.inl a)) (fun a => a.elim (fun b => y2 (Or.inr b)) q8))⟩) (by rw [sm_t hi1.1 hb9, ← ha6, ← hw0]) (by rw [sm_t hi1.1 hb9, ← ha7, ← hw1]) (by omega)
                          · skip
                            refine pw_aload r_12_fails_136 rfl ?_
                            refine pw_getR r_12_fails_137 fs_12_65 (by decide) ?_
                            refine pw_iload r_12_fails_140 rfl ?_
                            refine pw_zaldv (v := gA G 245 (0) ((7 + i1))) r_12_fails_142 sh245 (by omega) (by omega) (by first | rfl | simp [gF_sF, gF_sA, gF_uA, gF_sD, gA_sF, gA_sA, gA_uA, gA_sD, gD_sF, gD_sA, gD_uA, gD_sD]) ?_
                            refine pw_if_eq r_12_fails_143 (fun h143 => ?_) (fun h143 => ?_)
                            · skip
                              refine pw_const r_12_fails_150 ?_
                              refine pw_istore (ls' := [some (vR 12 (0)), some (vI (set0)), some (vI (set1)), some (vI (0)), some (vI (0)), some (vI (a5)), some (vI (a6)), some (vI (a7)), some (vI (a8)), some (vI (1)), some (vI (i1)), some (vI ((7 + i1)))]) r_12_fails_151 rfl rfl ?_
                              refine pw_iload r_12_fails_153 rfl ?_
                              refine pw_iload r_12_fails_155 rfl ?_
                              refine pw_if_ne r_12_fails_157 (fun h157 => ?_) (fun h157 => absurd h157 (by decide))
                              refine pw_const r_12_fails_172 ?_
                              refine pw_iaddW r_12_fails_173 ?_
                              refine pw_top (b := a5) (by rw [Int.add_zero, ha5]; exact wr_id (sm_in _ _ _)) ?_
                              refine pw_istore (ls' := [some (vR 12 (0)), some (vI (set0)), some (vI (set1)), some (vI (0)), some (vI (0)), some (vI (a5)), some (vI (a6)), some (vI (a7)), some (vI (a8)), some (vI (1)), some (vI (i1)), some (vI ((7 + i1)))]) r_12_fails_174 rfl rfl ?_
                              refine pw_iload r_12_fails_176 rfl ?_
                              refine pw_iload r_12_fails_178 rfl ?_
                              refine pw_const r_12_fails_180 ?_
                              refine pw_icmp_ne r_12_fails_181 (fun h181 => absurd h181 (by decide)) (fun h181 => ?_)
                              refine pw_aload r_12_fails_184 rfl ?_
                              refine pw_getR r_12_fails_185 fs_12_66 (by decide) ?_
                              refine pw_const r_12_fails_188 ?_
                              refine pw_iload r_12_fails_189 rfl ?_
                              refine pw_imul r_12_fails_191 (by omega) ?_
                              refine pw_ialdv (v := gA G 246 (0) ((2 * (7 + i1)))) r_12_fails_192 sh246 (by omega) (by omega) (by first | rfl | simp [gF_sF, gF_sA, gF_uA, gF_sD, gA_sF, gA_sA, gA_uA, gA_sD, gD_sF, gD_sA, gD_uA, gD_sD]) ?_
                              refine pw_goto r_12_fails_193 ?_
                              refine pw_iaddW r_12_fails_197 ?_
                              refine pw_istore (ls' := [some (vR 12 (0)), some (vI (set0)), some (vI (set1)), some (vI (0)), some (vI (0)), some (vI (a5)), some (vI (wr (a6 + (gA G 246 (0) ((2 * (7 + i1))))))), some (vI (a7)), some (vI (a8)), some (vI (1)), some (vI (i1)), some (vI ((7 + i1)))]) r_12_fails_198 rfl rfl ?_
                              refine pw_iload r_12_fails_200 rfl ?_
                              refine pw_iload r_12_fails_202 rfl ?_
                              refine pw_const r_12_fails_204 ?_
                              refine pw_icmp_ne r_12_fails_205 (fun h205 => absurd h205 (by decide)) (fun h205 => ?_)
                              refine pw_aload r_12_fails_208 rfl ?_
                              refine pw_getR r_12_fails_209 fs_12_66 (by decide) ?_
                              refine pw_const r_12_fails_212 ?_
                              refine pw_iload r_12_fails_213 rfl ?_
                              refine pw_imul r_12_fails_215 (by omega) ?_
                              refine pw_const r_12_fails_216 ?_
                              refine pw_iadd r_12_fails_217 (by omega) ?_
                              refine pw_ialdv (v := gA G 246 (0) (((2 * (7 + i1)) + 1))) r_12_fails_218 sh246 (by omega) (by omega) (by first | rfl | simp [gF_sF, gF_sA, gF_uA, gF_sD, gA_sF, gA_sA, gA_uA, gA_sD, gD_sF, gD_sA, gD_uA, gD_sD]) ?_
                              refine pw_goto r_12_fails_219 ?_
                              refine pw_iaddW r_12_fails_223 ?_
                              refine pw_istore (ls' := [some (vR 12 (0)), some (vI (set0)), some (vI (set1)), some (vI (0)), some (vI (0)), some (vI (a5)), some (vI (wr (a6 + (gA G 246 (0) ((2 * (7 + i1))))))), some (vI (wr (a7 + (gA G 246 (0) (((2 * (7 + i1)) + 1)))))), some (vI (a8)), some (vI (1)), some (vI (i1)), some (vI ((7 + i1)))]) r_12_fails_224 rfl rfl ?_
                              refine pw_iload r_12_fails_226 rfl ?_
                              refine pw_iload r_12_fails_228 rfl ?_
                              refine pw_if_ne r_12_fails_230 (fun h230 => ?_) (fun h230 => absurd h230 (by decide))
                              refine pw_const r_12_fails_247 ?_
                              refine pw_iaddW r_12_fails_248 ?_
                              refine pw_top (b := a8) (by rw [Int.add_zero, ha8]; exact wr_id (sm_in _ _ _)) ?_
                              refine pw_istore (ls' := [some (vR 12 (0)), some (vI (set0)), some (vI (set1)), some (vI (0)), some (vI (0)), some (vI (a5)), some (vI (wr (a6 + (gA G 246 (0) ((2 * (7 + i1))))))), some (vI (wr (a7 + (gA G 246 (0) (((2 * (7 + i1)) + 1)))))), some (vI (a8)), some (vI (1)), some (vI (i1)), some (vI ((7 + i1)))]) r_12_fails_249 rfl rfl ?_
                              refine pw_iinc (b := 0) (ls' := [some (vR 12 (0)), some (vI (set0)), some (vI (set1)), some (vI (0)), some (vI (0)), some (vI (a5)), some (vI (wr (a6 + (gA G 246 (0) ((2 * (7 + i1))))))), some (vI (wr (a7 + (gA G 246 (0) (((2 * (7 + i1)) + 1)))))), some (vI (a8)), some (vI (1)), some (vI ((i1 + 1))), some (vI ((7 + i1)))]) r_12_fails_251 rfl rfl (by omega) rfl ?_
                              refine pw_goto r_12_fails_254 ?_
                              refine pw_weakL (ls' := [some (vR 12 (0)), some (vI (set0)), some (vI (set1)), some (vI (0)), some (vI (0)), some (vI (a5)), some (vI (wr (a6 + (gA G 246 (0) ((2 * (7 + i1))))))), some (vI (wr (a7 + (gA G 246 (0) (((2 * (7 + i1)) + 1)))))), some (vI (a8)), some (vI (1)), some (vI ((i1 + 1))), none]) (⟨rfl, ⟨rfl, ⟨rfl, ⟨rfl, ⟨rfl, ⟨rfl, ⟨rfl, ⟨rfl, ⟨rfl, ⟨rfl, ⟨rfl, trivial⟩⟩⟩⟩⟩⟩⟩⟩⟩⟩⟩) ?_
                              refine pw_eqG (G' := uA G 247 (0) ((upA g1 (gA G 242 (0) ((7 + i1))) 1))) (by first | (rw [sA_uA]; done)) ?_
                              exact ih52 ((i1 + 1)) (0) (0) (wr (a6 + (gA G 246 (0) ((2 * (7 + i1)))))) (wr (a7 + (gA G 246 (0) (((2 * (7 + i1)) + 1))))) ((upA g1 (gA G 242 (0) ((7 + i1))) 1)) (by first | assumption | omega) (by intro x x0 x1; by_cases z : x = (gA G 242 0 (7 + i1)); rw [z, upA_same]; exact (b2i_t ((or_congr Iff.rfl (ex_t (Q := fun j => (gA G 242 0 (7 + j)) = (gA G 242 0 (7 + i1))) hi1.1 hb9)).mpr (Or.inr (Or.inr rfl)))).symm; rw [upA_ne z, hg1 x x0 x1]; exact b2i_iff ⟨fun y => (or_congr Iff.rfl (ex_t hi1.1 hb9)).mpr (y.imp id Or.inl), fun y => by have y2 := (or_congr Iff.rfl (ex_t hi1.1 hb9)).mp y; exact y2.imp id (fun q => q.resolve_right (fun q => z q.symm))⟩) (by rw [propext (or_congr Iff.rfl (ex_t hi1.1 hb9))]; rcases ht1 with ⟨y1, y2⟩ | ⟨y1, y⟩; by_cases q9 : (gA G 206 0 ((gA G 242 0 (7 + i1)))) ≠ 0; exact Or.inr ⟨by omega, Or.inr (Or.inr q9)⟩; exact Or.inl ⟨by omega, (have q8 := q9; fun z => z.elim (fun a => y2 (Or.inl a)) (fun a => a.elim (fun b => y2 (Or.inr b)) q8))⟩; exact Or.inr ⟨by omega, y.imp id Or.inl⟩) (by rw [propext (or_congr Iff.rfl (ex_t hi1.1 hb9))]; rcases hy1 with ⟨y1, y⟩ | ⟨y1, y2⟩; exact Or.inl ⟨by omega, y.imp id Or.inl⟩; by_cases q9 : ST (gA G 242 0 (7 + i1)) (gF G 12 0 0) (gF G 12 0 0); exact Or.inl ⟨by have q7 := hms.trans (b2i_t q9); omega, Or.inr (Or.inr q9)⟩; exact Or.inr ⟨by have q7 := hms.trans (b2i_f q9); omega, (have q8 := q9; fun z => z.elim (fun a => y2 (Or.inl a)) (fun a => a.elim (fun b => y2 (Or.inr b)) q8))⟩) (by rw [sm_t hi1.1 hb9, ← ha6, ← hw0]) (by rw [sm_t hi1.1 hb9, ← ha7, ← hw1]) (by omega)
                            · skip
                              refine pw_const r_12_fails_146 ?_
                              refine pw_goto r_12_fails_147 ?_
                              refine pw_istore (ls' := [some (vR 12 (0)), some (vI (set0)), some (vI (set1)), some (vI (0)), some (vI (1)), some (vI (a5)), some (vI (a6)), some (vI (a7)), some (vI (a8)), some (vI (1)), some (vI (i1)), some (vI ((7 + i1)))]) r_12_fails_151 rfl rfl ?_
                              refine pw_iload r_12_fails_153 rfl ?_
                              refine pw_iload r_12_fails_155 rfl ?_
                              refine pw_if_ne r_12_fails_157 (fun h157 => ?_) (fun h157 => absurd h157 (by decide))
                              refine pw_const r_12_fails_172 ?_
                              refine pw_iaddW r_12_fails_173 ?_
                              refine pw_top (b := a5) (by rw [Int.add_zero, ha5]; exact wr_id (sm_in _ _ _)) ?_
                              refine pw_istore (ls' := [some (vR 12 (0)), some (vI (set0)), some (vI (set1)), some (vI (0)), some (vI (1)), some (vI (a5)), some (vI (a6)), some (vI (a7)), some (vI (a8)), some (vI (1)), some (vI (i1)), some (vI ((7 + i1)))]) r_12_fails_174 rfl rfl ?_
                              refine pw_iload r_12_fails_176 rfl ?_
                              refine pw_iload r_12_fails_178 rfl ?_
                              refine pw_const r_12_fails_180 ?_
                              refine pw_icmp_ne r_12_fails_181 (fun h181 => absurd h181 (by decide)) (fun h181 => ?_)
                              refine pw_aload r_12_fails_184 rfl ?_
                              refine pw_getR r_12_fails_185 fs_12_66 (by decide) ?_
                              refine pw_const r_12_fails_188 ?_
                              refine pw_iload r_12_fails_189 rfl ?_
                              refine pw_imul r_12_fails_191 (by omega) ?_
                              refine pw_ialdv (v := gA G 246 (0) ((2 * (7 + i1)))) r_12_fails_192 sh246 (by omega) (by omega) (by first | rfl | simp [gF_sF, gF_sA, gF_uA, gF_sD, gA_sF, gA_sA, gA_uA, gA_sD, gD_sF, gD_sA, gD_uA, gD_sD]) ?_
                              refine pw_goto r_12_fails_193 ?_
                              refine pw_iaddW r_12_fails_197 ?_
                              refine pw_istore (ls' := [some (vR 12 (0)), some (vI (set0)), some (vI (set1)), some (vI (0)), some (vI (1)), some (vI (a5)), some (vI (wr (a6 + (gA G 246 (0) ((2 * (7 + i1))))))), some (vI (a7)), some (vI (a8)), some (vI (1)), some (vI (i1)), some (vI ((7 + i1)))]) r_12_fails_198 rfl rfl ?_
                              refine pw_iload r_12_fails_200 rfl ?_
                              refine pw_iload r_12_fails_202 rfl ?_
                              refine pw_const r_12_fails_204 ?_
                              refine pw_icmp_ne r_12_fails_205 (fun h205 => absurd h205 (by decide)) (fun h205 => ?_)
                              refine pw_aload r_12_fails_208 rfl ?_
                              refine pw_getR r_12_fails_209 fs_12_66 (by decide) ?_
                              refine pw_const r_12_fails_212 ?_
                              refine pw_iload r_12_fails_213 rfl ?_
                              refine pw_imul r_12_fails_215 (by omega) ?_
                              refine pw_const r_12_fails_216 ?_
                              refine pw_iadd r_12_fails_217 (by omega) ?_
                              refine pw_ialdv (v := gA G 246 (0) (((2 * (7 + i1)) + 1))) r_12_fails_218 sh246 (by omega) (by omega) (by first | rfl | simp [gF_sF, gF_sA, gF_uA, gF_sD, gA_sF, gA_sA, gA_uA, gA_sD, gD_sF, gD_sA, gD_uA, gD_sD]) ?_
                              refine pw_goto r_12_fails_219 ?_
                              refine pw_iaddW r_12_fails_223 ?_
                              refine pw_istore (ls' := [some (vR 12 (0)), some (vI (set0)), some (vI (set1)), some (vI (0)), some (vI (1)), some (vI (a5)), some (vI (wr (a6 + (gA G 246 (0) ((2 * (7 + i1))))))), some (vI (wr (a7 + (gA G 246 (0) (((2 * (7 + i1)) + 1)))))), some (vI (a8)), some (vI (1)), some (vI (i1)), some (vI ((7 + i1)))]) r_12_fails_224 rfl rfl ?_
                              refine pw_iload r_12_fails_226 rfl ?_
                              refine pw_iload r_12_fails_228 rfl ?_
                              refine pw_if_ne r_12_fails_230 (fun h230 => ?_) (fun h230 => absurd h230 (by decide))
                              refine pw_const r_12_fails_247 ?_
                              refine pw_iaddW r_12_fails_248 ?_
                              refine pw_top (b := a8) (by rw [Int.add_zero, ha8]; exact wr_id (sm_in _ _ _)) ?_
                              refine pw_istore (ls' := [some (vR 12 (0)), some (vI (set0)), some (vI (set1)), some (vI (0)), some (vI (1)), some (vI (a5)), some (vI (wr (a6 + (gA G 246 (0) ((2 * (7 + i1))))))), some (vI (wr (a7 + (gA G 246 (0) (((2 * (7 + i1)) + 1)))))), some (vI (a8)), some (vI (1)), some (vI (i1)), some (vI ((7 + i1)))]) r_12_fails_249 rfl rfl ?_
                              refine pw_iinc (b := 0) (ls' := [some (vR 12 (0)), some (vI (set0)), some (vI (set1)), some (vI (0)), some (vI (1)), some (vI (a5)), some (vI (wr (a6 + (gA G 246 (0) ((2 * (7 + i1))))))), some (vI (wr (a7 + (gA G 246 (0) (((2 * (7 + i1)) + 1)))))), some (vI (a8)), some (vI (1)), some (vI ((i1 + 1))), some (vI ((7 + i1)))]) r_12_fails_251 rfl rfl (by omega) rfl ?_
                              refine pw_goto r_12_fails_254 ?_
                              refine pw_weakL (ls' := [some (vR 12 (0)), some (vI (set0)), some (vI (set1)), some (vI (0)), some (vI (1)), some (vI (a5)), some (vI (wr (a6 + (gA G 246 (0) ((2 * (7 + i1))))))), some (vI (wr (a7 + (gA G 246 (0) (((2 * (7 + i1)) + 1)))))), some (vI (a8)), some (vI (1)), some (vI ((i1 + 1))), none]) (⟨rfl, ⟨rfl, ⟨rfl, ⟨rfl, ⟨rfl, ⟨rfl, ⟨rfl, ⟨rfl, ⟨rfl, ⟨rfl, ⟨rfl, trivial⟩⟩⟩⟩⟩⟩⟩⟩⟩⟩⟩) ?_
                              refine pw_eqG (G' := uA G 247 (0) ((upA g1 (gA G 242 (0) ((7 + i1))) 1))) (by first | (rw [sA_uA]; done)) ?_
                              exact ih52 ((i1 + 1)) (0) (1) (wr (a6 + (gA G 246 (0) ((2 * (7 + i1)))))) (wr (a7 + (gA G 246 (0) (((2 * (7 + i1)) + 1))))) ((upA g1 (gA G 242 (0) ((7 + i1))) 1)) (by first | assumption | omega) (by intro x x0 x1; by_cases z : x = (gA G 242 0 (7 + i1)); rw [z, upA_same]; exact (b2i_t ((or_congr Iff.rfl (ex_t (Q := fun j => (gA G 242 0 (7 + j)) = (gA G 242 0 (7 + i1))) hi1.1 hb9)).mpr (Or.inr (Or.inr rfl)))).symm; rw [upA_ne z, hg1 x x0 x1]; exact b2i_iff ⟨fun y => (or_congr Iff.rfl (ex_t hi1.1 hb9)).mpr (y.imp id Or.inl), fun y => by have y2 := (or_congr Iff.rfl (ex_t hi1.1 hb9)).mp y; exact y2.imp id (fun q => q.resolve_right (fun q => z q.symm))⟩) (by rw [propext (or_congr Iff.rfl (ex_t hi1.1 hb9))]; rcases ht1 with ⟨y1, y2⟩ | ⟨y1, y⟩; by_cases q9 : (gA G 206 0 ((gA G 242 0 (7 + i1)))) ≠ 0; exact Or.inr ⟨by omega, Or.inr (Or.inr q9)⟩; exact Or.inl ⟨by omega, (have q8 := q9; fun z => z.elim (fun a => y2 (Or.inl a)) (fun a => a.elim (fun b => y2 (Or.inr b)) q8))⟩; exact Or.inr ⟨by omega, y.imp id Or.inl⟩) (by rw [propext (or_congr Iff.rfl (ex_t hi1.1 hb9))]; rcases hy1 with ⟨y1, y⟩ | ⟨y1, y2⟩; exact Or.inl ⟨by omega, y.imp id Or.inl⟩; by_cases q9 : ST (gA G 242 0 (7 + i1)) (gF G 12 0 0) (gF G 12 0 0); exact Or.inl ⟨by have q7 := hms.trans (b2i_t q9); omega, Or.inr (Or.inr q9)⟩; exact Or.inr ⟨by have q7 := hms.trans (b2i_f q9); omega, (have q8 := q9; fun z => z.elim (fun a => y2 (Or.inl a)) (fun a => a.elim (fun b => y2 (Or.inr b)) q8))⟩) (by rw [sm_t hi1.1 hb9, ← ha6, ← hw0]) (by rw [sm_t hi1.1 hb9, ← ha7, ← hw1]) (by omega)
                        · skip
                          refine pw_const r_12_fails_125 ?_
                          refine pw_goto r_12_fails_126 ?_
                          refine pw_istore (ls' := [some (vR 12 (0)), some (vI (set0)), some (vI (set1)), some (vI (1)), some (vI (y1)), some (vI (a5)), some (vI (a6)), some (vI (a7)), some (vI (a8)), some (vI (1)), some (vI (i1)), some (vI ((7 + i1)))]) r_12_fails_130 rfl rfl ?_
                          refine pw_iload r_12_fails_131 rfl ?_
                          refine pw_if_ne r_12_fails_133 (fun h133 => ?_) (fun h133 => ?_)
                          · skip
                            refine pw_const r_12_fails_146 ?_
                            refine pw_goto r_12_fails_147 ?_
                            refine pw_istore (ls' := [some (vR 12 (0)), some (vI (set0)), some (vI (set1)), some (vI (1)), some (vI (1)), some (vI (a5)), some (vI (a6)), some (vI (a7)), some (vI (a8)), some (vI (1)), some (vI (i1)), some (vI ((7 + i1)))]) r_12_fails_151 rfl rfl ?_
                            refine pw_iload r_12_fails_153 rfl ?_
                            refine pw_iload r_12_fails_155 rfl ?_
                            refine pw_if_ne r_12_fails_157 (fun h157 => ?_) (fun h157 => absurd h157 (by decide))
                            refine pw_const r_12_fails_172 ?_
                            refine pw_iaddW r_12_fails_173 ?_
                            refine pw_top (b := a5) (by rw [Int.add_zero, ha5]; exact wr_id (sm_in _ _ _)) ?_
                            refine pw_istore (ls' := [some (vR 12 (0)), some (vI (set0)), some (vI (set1)), some (vI (1)), some (vI (1)), some (vI (a5)), some (vI (a6)), some (vI (a7)), some (vI (a8)), some (vI (1)), some (vI (i1)), some (vI ((7 + i1)))]) r_12_fails_174 rfl rfl ?_
                            refine pw_iload r_12_fails_176 rfl ?_
                            refine pw_iload r_12_fails_178 rfl ?_
                            refine pw_const r_12_fails_180 ?_
                            refine pw_icmp_ne r_12_fails_181 (fun h181 => absurd h181 (by decide)) (fun h181 => ?_)
                            refine pw_aload r_12_fails_184 rfl ?_
                            refine pw_getR r_12_fails_185 fs_12_66 (by decide) ?_
                            refine pw_const r_12_fails_188 ?_
                            refine pw_iload r_12_fails_189 rfl ?_
                            refine pw_imul r_12_fails_191 (by omega) ?_
                            refine pw_ialdv (v := gA G 246 (0) ((2 * (7 + i1)))) r_12_fails_192 sh246 (by omega) (by omega) (by first | rfl | simp [gF_sF, gF_sA, gF_uA, gF_sD, gA_sF, gA_sA, gA_uA, gA_sD, gD_sF, gD_sA, gD_uA, gD_sD]) ?_
                            refine pw_goto r_12_fails_193 ?_
                            refine pw_iaddW r_12_fails_197 ?_
                            refine pw_istore (ls' := [some (vR 12 (0)), some (vI (set0)), some (vI (set1)), some (vI (1)), some (vI (1)), some (vI (a5)), some (vI (wr (a6 + (gA G 246 (0) ((2 * (7 + i1))))))), some (vI (a7)), some (vI (a8)), some (vI (1)), some (vI (i1)), some (vI ((7 + i1)))]) r_12_fails_198 rfl rfl ?_
                            refine pw_iload r_12_fails_200 rfl ?_
                            refine pw_iload r_12_fails_202 rfl ?_
                            refine pw_const r_12_fails_204 ?_
                            refine pw_icmp_ne r_12_fails_205 (fun h205 => absurd h205 (by decide)) (fun h205 => ?_)
                            refine pw_aload r_12_fails_208 rfl ?_
                            refine pw_getR r_12_fails_209 fs_12_66 (by decide) ?_
                            refine pw_const r_12_fails_212 ?_
                            refine pw_iload r_12_fails_213 rfl ?_
                            refine pw_imul r_12_fails_215 (by omega) ?_
                            refine pw_const r_12_fails_216 ?_
                            refine pw_iadd r_12_fails_217 (by omega) ?_
                            refine pw_ialdv (v := gA G 246 (0) (((2 * (7 + i1)) + 1))) r_12_fails_218 sh246 (by omega) (by omega) (by first | rfl | simp [gF_sF, gF_sA, gF_uA, gF_sD, gA_sF, gA_sA, gA_uA, gA_sD, gD_sF, gD_sA, gD_uA, gD_sD]) ?_
                            refine pw_goto r_12_fails_219 ?_
                            refine pw_iaddW r_12_fails_223 ?_
                            refine pw_istore (ls' := [some (vR 12 (0)), some (vI (set0)), some (vI (set1)), some (vI (1)), some (vI (1)), some (vI (a5)), some (vI (wr (a6 + (gA G 246 (0) ((2 * (7 + i1))))))), some (vI (wr (a7 + (gA G 246 (0) (((2 * (7 + i1)) + 1)))))), some (vI (a8)), some (vI (1)), some (vI (i1)), some (vI ((7 + i1)))]) r_12_fails_224 rfl rfl ?_
                            refine pw_iload r_12_fails_226 rfl ?_
                            refine pw_iload r_12_fails_228 rfl ?_
                            refine pw_if_ne r_12_fails_230 (fun h230 => ?_) (fun h230 => absurd h230 (by decide))
                            refine pw_const r_12_fails_247 ?_
                            refine pw_iaddW r_12_fails_248 ?_
                            refine pw_top (b := a8) (by rw [Int.add_zero, ha8]; exact wr_id (sm_in _ _ _)) ?_
                            refine pw_istore (ls' := [some (vR 12 (0)), some (vI (set0)), some (vI (set1)), some (vI (1)), some (vI (1)), some (vI (a5)), some (vI (wr (a6 + (gA G 246 (0) ((2 * (7 + i1))))))), some (vI (wr (a7 + (gA G 246 (0) (((2 * (7 + i1)) + 1)))))), some (vI (a8)), some (vI (1)), some (vI (i1)), some (vI ((7 + i1)))]) r_12_fails_249 rfl rfl ?_
                            refine pw_iinc (b := 0) (ls' := [some (vR 12 (0)), some (vI (set0)), some (vI (set1)), some (vI (1)), some (vI (1)), some (vI (a5)), some (vI (wr (a6 + (gA G 246 (0) ((2 * (7 + i1))))))), some (vI (wr (a7 + (gA G 246 (0) (((2 * (7 + i1)) + 1)))))), some (vI (a8)), some (vI (1)), some (vI ((i1 + 1))), some (vI ((7 + i1)))]) r_12_fails_251 rfl rfl (by omega) rfl ?_
                            refine pw_goto r_12_fails_254 ?_
                            refine pw_weakL (ls' := [some (vR 12 (0)), some (vI (set0)), some (vI (set1)), some (vI (1)), some (vI (1)), some (vI (a5)), some (vI (wr (a6 + (gA G 246 (0) ((2 * (7 + i1))))))), some (vI (wr (a7 + (gA G 246 (0) (((2 * (7 + i1)) + 1)))))), some (vI (a8)), some (vI (1)), some (vI ((i1 + 1))), none]) (⟨rfl, ⟨rfl, ⟨rfl, ⟨rfl, ⟨rfl, ⟨rfl, ⟨rfl, ⟨rfl, ⟨rfl, ⟨rfl, ⟨rfl, trivial⟩⟩⟩⟩⟩⟩⟩⟩⟩⟩⟩) ?_
                            refine pw_eqG (G' := uA G 247 (0) ((upA g1 (gA G 242 (0) ((7 + i1))) 1))) (by first | (rw [sA_uA]; done)) ?_
                            exact ih52 ((i1 + 1)) (1) (1) (wr (a6 + (gA G 246 (0) ((2 * (7 + i1)))))) (wr (a7 + (gA G 246 (0) (((2 * (7 + i1)) + 1))))) ((upA g1 (gA G 242 (0) ((7 + i1))) 1)) (by first | assumption | omega) (by intro x x0 x1; by_cases z : x = (gA G 242 0 (7 + i1)); rw [z, upA_same]; exact (b2i_t ((or_congr Iff.rfl (ex_t (Q := fun j => (gA G 242 0 (7 + j)) = (gA G 242 0 (7 + i1))) hi1.1 hb9)).mpr (Or.inr (Or.inr rfl)))).symm; rw [upA_ne z, hg1 x x0 x1]; exact b2i_iff ⟨fun y => (or_congr Iff.rfl (ex_t hi1.1 hb9)).mpr (y.imp id Or.inl), fun y => by have y2 := (or_congr Iff.rfl (ex_t hi1.1 hb9)).mp y; exact y2.imp id (fun q => q.resolve_right (fun q => z q.symm))⟩) (by rw [propext (or_congr Iff.rfl (ex_t hi1.1 hb9))]; rcases ht1 with ⟨y1, y2⟩ | ⟨y1, y⟩; by_cases q9 : (gA G 206 0 ((gA G 242 0 (7 + i1)))) ≠ 0; exact Or.inr ⟨by omega, Or.inr (Or.inr q9)⟩; exact Or.inl ⟨by omega, (have q8 := q9; fun z => z.elim (fun a => y2 (Or.inl a)) (fun a => a.elim (fun b => y2 (Or.inr b)) q8))⟩; exact Or.inr ⟨by omega, y.imp id Or.inl⟩) (by rw [propext (or_congr Iff.rfl (ex_t hi1.1 hb9))]; rcases hy1 with ⟨y1, y⟩ | ⟨y1, y2⟩; exact Or.inl ⟨by omega, y.imp id Or.inl⟩; by_cases q9 : ST (gA G 242 0 (7 + i1)) (gF G 12 0 0) (gF G 12 0 0); exact Or.inl ⟨by have q7 := hms.trans (b2i_t q9); omega, Or.inr (Or.inr q9)⟩; exact Or.inr ⟨by have q7 := hms.trans (b2i_f q9); omega, (have q8 := q9; fun z => z.elim (fun a => y2 (Or.inl a)) (fun a => a.elim (fun b => y2 (Or.inr b)) q8))⟩) (by rw [sm_t hi1.1 hb9, ← ha6, ← hw0]) (by rw [sm_t hi1.1 hb9, ← ha7, ← hw1]) (by omega)
                          · skip
                            refine pw_aload r_12_fails_136 rfl ?_
                            refine pw_getR r_12_fails_137 fs_12_65 (by decide) ?_
                            refine pw_iload r_12_fails_140 rfl ?_
                            refine pw_zaldv (v := gA G 245 (0) ((7 + i1))) r_12_fails_142 sh245 (by omega) (by omega) (by first | rfl | simp [gF_sF, gF_sA, gF_uA, gF_sD, gA_sF, gA_sA, gA_uA, gA_sD, gD_sF, gD_sA, gD_uA, gD_sD]) ?_
                            refine pw_if_eq r_12_fails_143 (fun h143 => ?_) (fun h143 => ?_)
                            · skip
                              refine pw_const r_12_fails_150 ?_
                              refine pw_istore (ls' := [some (vR 12 (0)), some (vI (set0)), some (vI (set1)), some (vI (1)), some (vI (0)), some (vI (a5)), some (vI (a6)), some (vI (a7)), some (vI (a8)), some (vI (1)), some (vI (i1)), some (vI ((7 + i1)))]) r_12_fails_151 rfl rfl ?_
                              refine pw_iload r_12_fails_153 rfl ?_
                              refine pw_iload r_12_fails_155 rfl ?_
                              refine pw_if_ne r_12_fails_157 (fun h157 => ?_) (fun h157 => absurd h157 (by decide))
                              refine pw_const r_12_fails_172 ?_
                              refine pw_iaddW r_12_fails_173 ?_
                              refine pw_top (b := a5) (by rw [Int.add_zero, ha5]; exact wr_id (sm_in _ _ _)) ?_
                              refine pw_istore (ls' := [some (vR 12 (0)), some (vI (set0)), some (vI (set1)), some (vI (1)), some (vI (0)), some (vI (a5)), some (vI (a6)), some (vI (a7)), some (vI (a8)), some (vI (1)), some (vI (i1)), some (vI ((7 + i1)))]) r_12_fails_174 rfl rfl ?_
                              refine pw_iload r_12_fails_176 rfl ?_
                              refine pw_iload r_12_fails_178 rfl ?_
                              refine pw_const r_12_fails_180 ?_
                              refine pw_icmp_ne r_12_fails_181 (fun h181 => absurd h181 (by decide)) (fun h181 => ?_)
                              refine pw_aload r_12_fails_184 rfl ?_
                              refine pw_getR r_12_fails_185 fs_12_66 (by decide) ?_
                              refine pw_const r_12_fails_188 ?_
                              refine pw_iload r_12_fails_189 rfl ?_
                              refine pw_imul r_12_fails_191 (by omega) ?_
                              refine pw_ialdv (v := gA G 246 (0) ((2 * (7 + i1)))) r_12_fails_192 sh246 (by omega) (by omega) (by first | rfl | simp [gF_sF, gF_sA, gF_uA, gF_sD, gA_sF, gA_sA, gA_uA, gA_sD, gD_sF, gD_sA, gD_uA, gD_sD]) ?_
                              refine pw_goto r_12_fails_193 ?_
                              refine pw_iaddW r_12_fails_197 ?_
                              refine pw_istore (ls' := [some (vR 12 (0)), some (vI (set0)), some (vI (set1)), some (vI (1)), some (vI (0)), some (vI (a5)), some (vI (wr (a6 + (gA G 246 (0) ((2 * (7 + i1))))))), some (vI (a7)), some (vI (a8)), some (vI (1)), some (vI (i1)), some (vI ((7 + i1)))]) r_12_fails_198 rfl rfl ?_
                              refine pw_iload r_12_fails_200 rfl ?_
                              refine pw_iload r_12_fails_202 rfl ?_
                              refine pw_const r_12_fails_204 ?_
                              refine pw_icmp_ne r_12_fails_205 (fun h205 => absurd h205 (by decide)) (fun h205 => ?_)
                              refine pw_aload r_12_fails_208 rfl ?_
                              refine pw_getR r_12_fails_209 fs_12_66 (by decide) ?_
                              refine pw_const r_12_fails_212 ?_
                              refine pw_iload r_12_fails_213 rfl ?_
                              refine pw_imul r_12_fails_215 (by omega) ?_
                              refine pw_const r_12_fails_216 ?_
                              refine pw_iadd r_12_fails_217 (by omega) ?_
                              refine pw_ialdv (v := gA G 246 (0) (((2 * (7 + i1)) + 1))) r_12_fails_218 sh246 (by omega) (by omega) (by first | rfl | simp [gF_sF, gF_sA, gF_uA, gF_sD, gA_sF, gA_sA, gA_uA, gA_sD, gD_sF, gD_sA, gD_uA, gD_sD]) ?_
                              refine pw_goto r_12_fails_219 ?_
                              refine pw_iaddW r_12_fails_223 ?_
                              refine pw_istore (ls' := [some (vR 12 (0)), some (vI (set0)), some (vI (set1)), some (vI (1)), some (vI (0)), some (vI (a5)), some (vI (wr (a6 + (gA G 246 (0) ((2 * (7 + i1))))))), some (vI (wr (a7 + (gA G 246 (0) (((2 * (7 + i1)) + 1)))))), some (vI (a8)), some (vI (1)), some (vI (i1)), some (vI ((7 + i1)))]) r_12_fails_224 rfl rfl ?_
                              refine pw_iload r_12_fails_226 rfl ?_
                              refine pw_iload r_12_fails_228 rfl ?_
                              refine pw_if_ne r_12_fails_230 (fun h230 => ?_) (fun h230 => absurd h230 (by decide))
                              refine pw_const r_12_fails_247 ?_
                              refine pw_iaddW r_12_fails_248 ?_
                              refine pw_top (b := a8) (by rw [Int.add_zero, ha8]; exact wr_id (sm_in _ _ _)) ?_
                              refine pw_istore (ls' := [some (vR 12 (0)), some (vI (set0)), some (vI (set1)), some (vI (1)), some (vI (0)), some (vI (a5)), some (vI (wr (a6 + (gA G 246 (0) ((2 * (7 + i1))))))), some (vI (wr (a7 + (gA G 246 (0) (((2 * (7 + i1)) + 1)))))), some (vI (a8)), some (vI (1)), some (vI (i1)), some (vI ((7 + i1)))]) r_12_fails_249 rfl rfl ?_
                              refine pw_iinc (b := 0) (ls' := [some (vR 12 (0)), some (vI (set0)), some (vI (set1)), some (vI (1)), some (vI (0)), some (vI (a5)), some (vI (wr (a6 + (gA G 246 (0) ((2 * (7 + i1))))))), some (vI (wr (a7 + (gA G 246 (0) (((2 * (7 + i1)) + 1)))))), some (vI (a8)), some (vI (1)), some (vI ((i1 + 1))), some (vI ((7 + i1)))]) r_12_fails_251 rfl rfl (by omega) rfl ?_
                              refine pw_goto r_12_fails_254 ?_
                              refine pw_weakL (ls' := [some (vR 12 (0)), some (vI (set0)), some (vI (set1)), some (vI (1)), some (vI (0)), some (vI (a5)), some (vI (wr (a6 + (gA G 246 (0) ((2 * (7 + i1))))))), some (vI (wr (a7 + (gA G 246 (0) (((2 * (7 + i1)) + 1)))))), some (vI (a8)), some (vI (1)), some (vI ((i1 + 1))), none]) (⟨rfl, ⟨rfl, ⟨rfl, ⟨rfl, ⟨rfl, ⟨rfl, ⟨rfl, ⟨rfl, ⟨rfl, ⟨rfl, ⟨rfl, trivial⟩⟩⟩⟩⟩⟩⟩⟩⟩⟩⟩) ?_
                              refine pw_eqG (G' := uA G 247 (0) ((upA g1 (gA G 242 (0) ((7 + i1))) 1))) (by first | (rw [sA_uA]; done)) ?_
                              exact ih52 ((i1 + 1)) (1) (0) (wr (a6 + (gA G 246 (0) ((2 * (7 + i1)))))) (wr (a7 + (gA G 246 (0) (((2 * (7 + i1)) + 1))))) ((upA g1 (gA G 242 (0) ((7 + i1))) 1)) (by first | assumption | omega) (by intro x x0 x1; by_cases z : x = (gA G 242 0 (7 + i1)); rw [z, upA_same]; exact (b2i_t ((or_congr Iff.rfl (ex_t (Q := fun j => (gA G 242 0 (7 + j)) = (gA G 242 0 (7 + i1))) hi1.1 hb9)).mpr (Or.inr (Or.inr rfl)))).symm; rw [upA_ne z, hg1 x x0 x1]; exact b2i_iff ⟨fun y => (or_congr Iff.rfl (ex_t hi1.1 hb9)).mpr (y.imp id Or.inl), fun y => by have y2 := (or_congr Iff.rfl (ex_t hi1.1 hb9)).mp y; exact y2.imp id (fun q => q.resolve_right (fun q => z q.symm))⟩) (by rw [propext (or_congr Iff.rfl (ex_t hi1.1 hb9))]; rcases ht1 with ⟨y1, y2⟩ | ⟨y1, y⟩; by_cases q9 : (gA G 206 0 ((gA G 242 0 (7 + i1)))) ≠ 0; exact Or.inr ⟨by omega, Or.inr (Or.inr q9)⟩; exact Or.inl ⟨by omega, (have q8 := q9; fun z => z.elim (fun a => y2 (Or.inl a)) (fun a => a.elim (fun b => y2 (Or.inr b)) q8))⟩; exact Or.inr ⟨by omega, y.imp id Or.inl⟩) (by rw [propext (or_congr Iff.rfl (ex_t hi1.1 hb9))]; rcases hy1 with ⟨y1, y⟩ | ⟨y1, y2⟩; exact Or.inl ⟨by omega, y.imp id Or.inl⟩; by_cases q9 : ST (gA G 242 0 (7 + i1)) (gF G 12 0 0) (gF G 12 0 0); exact Or.inl ⟨by have q7 := hms.trans (b2i_t q9); omega, Or.inr (Or.inr q9)⟩; exact Or.inr ⟨by have q7 := hms.trans (b2i_f q9); omega, (have q8 := q9; fun z => z.elim (fun a => y2 (Or.inl a)) (fun a => a.elim (fun b => y2 (Or.inr b)) q8))⟩) (by rw [sm_t hi1.1 hb9, ← ha6, ← hw0]) (by rw [sm_t hi1.1 hb9, ← ha7, ← hw1]) (by omega)
                            · skip
                              refine pw_const r_12_fails_146 ?_
                              refine pw_goto r_12_fails_147 ?_
                              refine pw_istore (ls' := [some (vR 12 (0)), some (vI (set0)), some (vI (set1)), some (vI (1)), some (vI (1)), some (vI (a5)), some (vI (a6)), some (vI (a7)), some (vI (a8)), some (vI (1)), some (vI (i1)), some (vI ((7 + i1)))]) r_12_fails_151 rfl rfl ?_
                              refine pw_iload r_12_fails_153 rfl ?_
                              refine pw_iload r_12_fails_155 rfl ?_
                              refine pw_if_ne r_12_fails_157 (fun h157 => ?_) (fun h157 => absurd h157 (by decide))
                              refine pw_const r_12_fails_172 ?_
                              refine pw_iaddW r_12_fails_173 ?_
                              refine pw_top (b := a5) (by rw [Int.add_zero, ha5]; exact wr_id (sm_in _ _ _)) ?_
                              refine pw_istore (ls' := [some (vR 12 (0)), some (vI (set0)), some (vI (set1)), some (vI (1)), some (vI (1)), some (vI (a5)), some (vI (a6)), some (vI (a7)), some (vI (a8)), some (vI (1)), some (vI (i1)), some (vI ((7 + i1)))]) r_12_fails_174 rfl rfl ?_
                              refine pw_iload r_12_fails_176 rfl ?_
                              refine pw_iload r_12_fails_178 rfl ?_
                              refine pw_const r_12_fails_180 ?_
                              refine pw_icmp_ne r_12_fails_181 (fun h181 => absurd h181 (by decide)) (fun h181 => ?_)
                              refine pw_aload r_12_fails_184 rfl ?_
                              refine pw_getR r_12_fails_185 fs_12_66 (by decide) ?_
                              refine pw_const r_12_fails_188 ?_
                              refine pw_iload r_12_fails_189 rfl ?_
                              refine pw_imul r_12_fails_191 (by omega) ?_
                              refine pw_ialdv (v := gA G 246 (0) ((2 * (7 + i1)))) r_12_fails_192 sh246 (by omega) (by omega) (by first | rfl | simp [gF_sF, gF_sA, gF_uA, gF_sD, gA_sF, gA_sA, gA_uA, gA_sD, gD_sF, gD_sA, gD_uA, gD_sD]) ?_
                              refine pw_goto r_12_fails_193 ?_
                              refine pw_iaddW r_12_fails_197 ?_
                              refine pw_istore (ls' := [some (vR 12 (0)), some (vI (set0)), some (vI (set1)), some (vI (1)), some (vI (1)), some (vI (a5)), some (vI (wr (a6 + (gA G 246 (0) ((2 * (7 + i1))))))), some (vI (a7)), some (vI (a8)), some (vI (1)), some (vI (i1)), some (vI ((7 + i1)))]) r_12_fails_198 rfl rfl ?_
                              refine pw_iload r_12_fails_200 rfl ?_
                              refine pw_iload r_12_fails_202 rfl ?_
                              refine pw_const r_12_fails_204 ?_
                              refine pw_icmp_ne r_12_fails_205 (fun h205 => absurd h205 (by decide)) (fun h205 => ?_)
                              refine pw_aload r_12_fails_208 rfl ?_
                              refine pw_getR r_12_fails_209 fs_12_66 (by decide) ?_
                              refine pw_const r_12_fails_212 ?_
                              refine pw_iload r_12_fails_213 rfl ?_
                              refine pw_imul r_12_fails_215 (by omega) ?_
                              refine pw_const r_12_fails_216 ?_
                              refine pw_iadd r_12_fails_217 (by omega) ?_
                              refine pw_ialdv (v := gA G 246 (0) (((2 * (7 + i1)) + 1))) r_12_fails_218 sh246 (by omega) (by omega) (by first | rfl | simp [gF_sF, gF_sA, gF_uA, gF_sD, gA_sF, gA_sA, gA_uA, gA_sD, gD_sF, gD_sA, gD_uA, gD_sD]) ?_
                              refine pw_goto r_12_fails_219 ?_
                              refine pw_iaddW r_12_fails_223 ?_
                              refine pw_istore (ls' := [some (vR 12 (0)), some (vI (set0)), some (vI (set1)), some (vI (1)), some (vI (1)), some (vI (a5)), some (vI (wr (a6 + (gA G 246 (0) ((2 * (7 + i1))))))), some (vI (wr (a7 + (gA G 246 (0) (((2 * (7 + i1)) + 1)))))), some (vI (a8)), some (vI (1)), some (vI (i1)), some (vI ((7 + i1)))]) r_12_fails_224 rfl rfl ?_
                              refine pw_iload r_12_fails_226 rfl ?_
                              refine pw_iload r_12_fails_228 rfl ?_
                              refine pw_if_ne r_12_fails_230 (fun h230 => ?_) (fun h230 => absurd h230 (by decide))
                              refine pw_const r_12_fails_247 ?_
                              refine pw_iaddW r_12_fails_248 ?_
                              refine pw_top (b := a8) (by rw [Int.add_zero, ha8]; exact wr_id (sm_in _ _ _)) ?_
                              refine pw_istore (ls' := [some (vR 12 (0)), some (vI (set0)), some (vI (set1)), some (vI (1)), some (vI (1)), some (vI (a5)), some (vI (wr (a6 + (gA G 246 (0) ((2 * (7 + i1))))))), some (vI (wr (a7 + (gA G 246 (0) (((2 * (7 + i1)) + 1)))))), some (vI (a8)), some (vI (1)), some (vI (i1)), some (vI ((7 + i1)))]) r_12_fails_249 rfl rfl ?_
                              refine pw_iinc (b := 0) (ls' := [some (vR 12 (0)), some (vI (set0)), some (vI (set1)), some (vI (1)), some (vI (1)), some (vI (a5)), some (vI (wr (a6 + (gA G 246 (0) ((2 * (7 + i1))))))), some (vI (wr (a7 + (gA G 246 (0) (((2 * (7 + i1)) + 1)))))), some (vI (a8)), some (vI (1)), some (vI ((i1 + 1))), some (vI ((7 + i1)))]) r_12_fails_251 rfl rfl (by omega) rfl ?_
                              refine pw_goto r_12_fails_254 ?_
                              refine pw_weakL (ls' := [some (vR 12 (0)), some (vI (set0)), some (vI (set1)), some (vI (1)), some (vI (1)), some (vI (a5)), some (vI (wr (a6 + (gA G 246 (0) ((2 * (7 + i1))))))), some (vI (wr (a7 + (gA G 246 (0) (((2 * (7 + i1)) + 1)))))), some (vI (a8)), some (vI (1)), some (vI ((i1 + 1))), none]) (⟨rfl, ⟨rfl, ⟨rfl, ⟨rfl, ⟨rfl, ⟨rfl, ⟨rfl, ⟨rfl, ⟨rfl, ⟨rfl, ⟨rfl, trivial⟩⟩⟩⟩⟩⟩⟩⟩⟩⟩⟩) ?_
                              refine pw_eqG (G' := uA G 247 (0) ((upA g1 (gA G 242 (0) ((7 + i1))) 1))) (by first | (rw [sA_uA]; done)) ?_
                              exact ih52 ((i1 + 1)) (1) (1) (wr (a6 + (gA G 246 (0) ((2 * (7 + i1)))))) (wr (a7 + (gA G 246 (0) (((2 * (7 + i1)) + 1))))) ((upA g1 (gA G 242 (0) ((7 + i1))) 1)) (by first | assumption | omega) (by intro x x0 x1; by_cases z : x = (gA G 242 0 (7 + i1)); rw [z, upA_same]; exact (b2i_t ((or_congr Iff.rfl (ex_t (Q := fun j => (gA G 242 0 (7 + j)) = (gA G 242 0 (7 + i1))) hi1.1 hb9)).mpr (Or.inr (Or.inr rfl)))).symm; rw [upA_ne z, hg1 x x0 x1]; exact b2i_iff ⟨fun y => (or_congr Iff.rfl (ex_t hi1.1 hb9)).mpr (y.imp id Or.inl), fun y => by have y2 := (or_congr Iff.rfl (ex_t hi1.1 hb9)).mp y; exact y2.imp id (fun q => q.resolve_right (fun q => z q.symm))⟩) (by rw [propext (or_congr Iff.rfl (ex_t hi1.1 hb9))]; rcases ht1 with ⟨y1, y2⟩ | ⟨y1, y⟩; by_cases q9 : (gA G 206 0 ((gA G 242 0 (7 + i1)))) ≠ 0; exact Or.inr ⟨by omega, Or.inr (Or.inr q9)⟩; exact Or.inl ⟨by omega, (have q8 := q9; fun z => z.elim (fun a => y2 (Or.inl a)) (fun a => a.elim (fun b => y2 (Or.inr b)) q8))⟩; exact Or.inr ⟨by omega, y.imp id Or.inl⟩) (by rw [propext (or_congr Iff.rfl (ex_t hi1.1 hb9))]; rcases hy1 with ⟨y1, y⟩ | ⟨y1, y2⟩; exact Or.inl ⟨by omega, y.imp id Or.inl⟩; by_cases q9 : ST (gA G 242 0 (7 + i1)) (gF G 12 0 0) (gF G 12 0 0); exact Or.inl ⟨by have q7 := hms.trans (b2i_t q9); omega, Or.inr (Or.inr q9)⟩; exact Or.inr ⟨by have q7 := hms.trans (b2i_f q9); omega, (have q8 := q9; fun z => z.elim (fun a => y2 (Or.inl a)) (fun a => a.elim (fun b => y2 (Or.inr b)) q8))⟩) (by rw [sm_t hi1.1 hb9, ← ha6, ← hw0]) (by rw [sm_t hi1.1 hb9, ← ha7, ← hw1]) (by omega)
              exact L52 _ (0) (t0) (y0) (0) (0) (g0) (by first | assumption | omega) (by intro x x0 x1; rw [hg0 x x0 x1, show (gA G 243 0 (0)) = i0 by omega]; exact b2i_iff ⟨Or.inl, fun z => z.resolve_right ex_0⟩) (by rw [show (gA G 243 0 (0)) = i0 by omega]; exact ht0.imp (fun z => ⟨z.1, fun y => y.elim z.2 ex_0⟩) (fun z => ⟨z.1, Or.inl z.2⟩)) (by rw [show (gA G 243 0 (0)) = i0 by omega]; exact hy0.imp (fun z => ⟨z.1, Or.inl z.2⟩) (fun z => ⟨z.1, fun y => y.elim z.2 ex_0⟩)) (rfl) (rfl) (Nat.lt_succ_self _)
            · skip
              refine pw_const r_12_fails_64 ?_
              refine pw_iload r_12_fails_66 rfl ?_
              refine pw_imul r_12_fails_68 (by omega) ?_
              refine pw_top (b := 0) (by decide) ?_
              refine pw_iload r_12_fails_69 rfl ?_
              refine pw_iadd r_12_fails_71 (by omega) ?_
              refine pw_istore (ls' := [some (vR 12 (0)), some (vI (set0)), some (vI (set1)), some (vI (t0)), some (vI (y0)), some (vI (a5)), some (vI (0)), some (vI (0)), some (vI (a8)), some (vI (0)), some (vI (i0)), some (vI ((0 + i0)))]) r_12_fails_72 rfl rfl ?_
              refine pw_iload r_12_fails_74 rfl ?_
              refine pw_if_ne r_12_fails_76 (fun h76 => absurd h76 (by decide)) (fun h76 => ?_)
              refine pw_iload r_12_fails_79 rfl ?_
              refine pw_goto r_12_fails_80 ?_
              refine pw_iload r_12_fails_84 rfl ?_
              refine pw_ishr r_12_fails_86 ?_
              refine pw_const r_12_fails_87 ?_
              refine pw_iand r_12_fails_88 ?_
              refine pw_const r_12_fails_89 ?_
              refine pw_icmp_ne r_12_fails_90 (fun h90 => ?_) (fun h90 => ?_)
              · skip
                have hb9 : ¬ bt set0 i0 := by rw [bt1]; omega
                refine pw_iinc (b := 0) (ls' := [some (vR 12 (0)), some (vI (set0)), some (vI (set1)), some (vI (t0)), some (vI (y0)), some (vI (a5)), some (vI (0)), some (vI (0)), some (vI (a8)), some (vI (0)), some (vI ((i0 + 1))), some (vI ((0 + i0)))]) r_12_fails_251 rfl rfl (by omega) rfl ?_
                refine pw_goto r_12_fails_254 ?_
                refine pw_weakL (ls' := [some (vR 12 (0)), some (vI (set0)), some (vI (set1)), some (vI (t0)), some (vI (y0)), some (vI (a5)), some (vI (0)), some (vI (0)), some (vI (a8)), some (vI (0)), some (vI ((i0 + 1))), none]) (⟨rfl, ⟨rfl, ⟨rfl, ⟨rfl, ⟨rfl, ⟨rfl, ⟨rfl, ⟨rfl, ⟨rfl, ⟨rfl, ⟨rfl, trivial⟩⟩⟩⟩⟩⟩⟩⟩⟩⟩⟩) ?_
                exact ih52 ((i0 + 1)) (t0) (y0) (a5) (a8) (g0) (by first | assumption | omega) (by intro x x0 x1; rw [hg0 x x0 x1]; exact b2i_iff ((ex_f hb9)).symm) (by rw [propext ((ex_f hb9))]; exact ht0) (by rw [propext ((ex_f hb9))]; exact hy0) (by rw [sm_f hi0.1 hb9]; exact ha5) (by rw [sm_f hi0.1 hb9]; exact ha8) (by omega)
              · skip
                have hb9 : bt set0 i0 := by rw [bt1]; omega
                have hpl := hlv 0 i0 (by decide) (by decide) hi0.1 (by omega)
                have hf0 := hf9 0 i0 (by decide) (by decide) hi0.1 (by omega)
                have hms : gA G 245 0 (0 + i0) = b2i (ST (gA G 242 0 (0 + i0)) (gF G 12 0 0) (gF G 12 0 0)) := hf0.1
                have hw0 : gA G 246 0 (2 * (0 + i0)) = WT (gA G 242 0 (0 + i0)) 0 (gF G 12 0 0) (gF G 12 0 0) := hf0.2.1
                have hw1 : gA G 246 0 (2 * (0 + i0) + 1) = WT (gA G 242 0 (0 + i0)) 1 (gF G 12 0 0) (gF G 12 0 0) := hf0.2.2
                have hpl2 : 0 ≤ (gA G 242 0 (0 + i0)) ∧ (gA G 242 0 (0 + i0)) < (gF G 12 0 17) := hpl
                refine pw_aload r_12_fails_93 rfl ?_
                refine pw_getR r_12_fails_94 fs_12_67 (by decide) ?_
                refine pw_aload r_12_fails_97 rfl ?_
                refine pw_getR r_12_fails_98 fs_12_60 (by decide) ?_
                refine pw_iload r_12_fails_101 rfl ?_
                refine pw_ialdv (v := gA G 242 (0) ((0 + i0))) r_12_fails_103 sh242 (by omega) (by omega) (by first | rfl | simp [gF_sF, gF_sA, gF_uA, gF_sD, gA_sF, gA_sA, gA_uA, gA_sD, gD_sF, gD_sA, gD_uA, gD_sD]) ?_
                refine pw_const r_12_fails_104 ?_
                refine pw_zast r_12_fails_105 sh247 (by omega) (by omega) (by omega) ?_
                refine pw_iload r_12_fails_106 rfl ?_
                refine pw_if_eq r_12_fails_107 (fun h107 => ?_) (fun h107 => ?_)
                · skip
                  refine pw_const r_12_fails_129 ?_
                  refine pw_istore (ls' := [some (vR 12 (0)), some (vI (set0)), some (vI (set1)), some (vI (0)), some (vI (y0)), some (vI (a5)), some (vI (0)), some (vI (0)), some (vI (a8)), some (vI (0)), some (vI (i0)), some (vI ((0 + i0)))]) r_12_fails_130 rfl rfl ?_
                  refine pw_iload r_12_fails_131 rfl ?_
                  refine pw_if_ne r_12_fails_133 (fun h133 => ?_) (fun h133 => ?_)
                  · skip
                    refine pw_const r_12_fails_146 ?_
                    refine pw_goto r_12_fails_147 ?_
                    refine pw_istore (ls' := [some (vR 12 (0)), some (vI (set0)), some (vI (set1)), some (vI (0)), some (vI (1)), some (vI (a5)), some (vI (0)), some (vI (0)), some (vI (a8)), some (vI (0)), some (vI (i0)), some (vI ((0 + i0)))]) r_12_fails_151 rfl rfl ?_
                    refine pw_iload r_12_fails_153 rfl ?_
                    refine pw_iload r_12_fails_155 rfl ?_
                    refine pw_if_ne r_12_fails_157 (fun h157 => absurd h157 (by decide)) (fun h157 => ?_)
                    refine pw_aload r_12_fails_160 rfl ?_
                    refine pw_getR r_12_fails_161 fs_12_66 (by decide) ?_
                    refine pw_const r_12_fails_164 ?_
                    refine pw_iload r_12_fails_165 rfl ?_
                    refine pw_imul r_12_fails_167 (by omega) ?_
                    refine pw_ialdv (v := gA G 246 (0) ((2 * (0 + i0)))) r_12_fails_168 sh246 (by omega) (by omega) (by first | rfl | simp [gF_sF, gF_sA, gF_uA, gF_sD, gA_sF, gA_sA, gA_uA, gA_sD, gD_sF, gD_sA, gD_uA, gD_sD]) ?_
                    refine pw_goto r_12_fails_169 ?_
                    refine pw_iaddW r_12_fails_173 ?_
                    refine pw_istore (ls' := [some (vR 12 (0)), some (vI (set0)), some (vI (set1)), some (vI (0)), some (vI (1)), some (vI (wr (a5 + (gA G 246 (0) ((2 * (0 + i0))))))), some (vI (0)), some (vI (0)), some (vI (a8)), some (vI (0)), some (vI (i0)), some (vI ((0 + i0)))]) r_12_fails_174 rfl rfl ?_
                    refine pw_iload r_12_fails_176 rfl ?_
                    refine pw_iload r_12_fails_178 rfl ?_
                    refine pw_const r_12_fails_180 ?_
                    refine pw_icmp_ne r_12_fails_181 (fun h181 => ?_) (fun h181 => absurd h181 (by decide))
                    refine pw_const r_12_fails_196 ?_
                    refine pw_iaddW r_12_fails_197 ?_
                    refine pw_top (b := 0) (by decide) ?_
                    refine pw_istore (ls' := [some (vR 12 (0)), some (vI (set0)), some (vI (set1)), some (vI (0)), some (vI (1)), some (vI (wr (a5 + (gA G 246 (0) ((2 * (0 + i0))))))), some (vI (0)), some (vI (0)), some (vI (a8)), some (vI (0)), some (vI (i0)), some (vI ((0 + i0)))]) r_12_fails_198 rfl rfl ?_
                    refine pw_iload r_12_fails_200 rfl ?_
                    refine pw_iload r_12_fails_202 rfl ?_
                    refine pw_const r_12_fails_204 ?_
                    refine pw_icmp_ne r_12_fails_205 (fun h205 => ?_) (fun h205 => absurd h205 (by decide))
                    refine pw_const r_12_fails_222 ?_
                    refine pw_iaddW r_12_fails_223 ?_
                    refine pw_top (b := 0) (by decide) ?_
                    refine pw_istore (ls' := [some (vR 12 (0)), some (vI (set0)), some (vI (set1)), some (vI (0)), some (vI (1)), some (vI (wr (a5 + (gA G 246 (0) ((2 * (0 + i0))))))), some (vI (0)), some (vI (0)), some (vI (a8)), some (vI (0)), some (vI (i0)), some (vI ((0 + i0)))]) r_12_fails_224 rfl rfl ?_
                    refine pw_iload r_12_fails_226 rfl ?_
                    refine pw_iload r_12_fails_228 rfl ?_
                    refine pw_if_ne r_12_fails_230 (fun h230 => absurd h230 (by decide)) (fun h230 => ?_)
                    refine pw_aload r_12_fails_233 rfl ?_
                    refine pw_getR r_12_fails_234 fs_12_66 (by decide) ?_
                    refine pw_const r_12_fails_237 ?_
                    refine pw_iload r_12_fails_238 rfl ?_
                    refine pw_imul r_12_fails_240 (by omega) ?_
                    refine pw_const r_12_fails_241 ?_
                    refine pw_iadd r_12_fails_242 (by omega) ?_
                    refine pw_ialdv (v := gA G 246 (0) (((2 * (0 + i0)) + 1))) r_12_fails_243 sh246 (by omega) (by omega) (by first | rfl | simp [gF_sF, gF_sA, gF_uA, gF_sD, gA_sF, gA_sA, gA_uA, gA_sD, gD_sF, gD_sA, gD_uA, gD_sD]) ?_
                    refine pw_goto r_12_fails_244 ?_
                    refine pw_iaddW r_12_fails_248 ?_
                    refine pw_istore (ls' := [some (vR 12 (0)), some (vI (set0)), some (vI (set1)), some (vI (0)), some (vI (1)), some (vI (wr (a5 + (gA G 246 (0) ((2 * (0 + i0))))))), some (vI (0)), some (vI (0)), some (vI (wr (a8 + (gA G 246 (0) (((2 * (0 + i0)) + 1)))))), some (vI (0)), some (vI (i0)), some (vI ((0 + i0)))]) r_12_fails_249 rfl rfl ?_
                    refine pw_iinc (b := 0) (ls' := [some (vR 12 (0)), some (vI (set0)), some (vI (set1)), some (vI (0)), some (vI (1)), some (vI (wr (a5 + (gA G 246 (0) ((2 * (0 + i0))))))), some (vI (0)), some (vI (0)), some (vI (wr (a8 + (gA G 246 (0) (((2 * (0 + i0)) + 1)))))), some (vI (0)), some (vI ((i0 + 1))), some (vI ((0 + i0)))]) r_12_fails_251 rfl rfl (by omega) rfl ?_
                    refine pw_goto r_12_fails_254 ?_
                    refine pw_weakL (ls' := [some (vR 12 (0)), some (vI (set0)), some (vI (set1)), some (vI (0)), some (vI (1)), some (vI (wr (a5 + (gA G 246 (0) ((2 * (0 + i0))))))), some (vI (0)), some (vI (0)), some (vI (wr (a8 + (gA G 246 (0) (((2 * (0 + i0)) + 1)))))), some (vI (0)), some (vI ((i0 + 1))), none]) (⟨rfl, ⟨rfl, ⟨rfl, ⟨rfl, ⟨rfl, ⟨rfl, ⟨rfl, ⟨rfl, ⟨rfl, ⟨rfl, ⟨rfl, trivial⟩⟩⟩⟩⟩⟩⟩⟩⟩⟩⟩) ?_
                    refine pw_eqG (G' := uA G 247 (0) ((upA g0 (gA G 242 (0) ((0 + i0))) 1))) (by first | (rw [sA_uA]; done)) ?_
                    exact ih52 ((i0 + 1)) (0) (1) (wr (a5 + (gA G 246 (0) ((2 * (0 + i0)))))) (wr (a8 + (gA G 246 (0) (((2 * (0 + i0)) + 1))))) ((upA g0 (gA G 242 (0) ((0 + i0))) 1)) (by first | assumption | omega) (by intro x x0 x1; by_cases z : x = (gA G 242 0 (0 + i0)); rw [z, upA_same]; exact (b2i_t (((ex_t (Q := fun j => (gA G 242 0 (0 + j)) = (gA G 242 0 (0 + i0))) hi0.1 hb9)).mpr (Or.inr rfl))).symm; rw [upA_ne z, hg0 x x0 x1]; exact b2i_iff ⟨fun y => ((ex_t hi0.1 hb9)).mpr (Or.inl y), fun y => by have y2 := ((ex_t hi0.1 hb9)).mp y; exact y2.resolve_right (fun q => z q.symm)⟩) (by rw [propext ((ex_t hi0.1 hb9))]; rcases ht0 with ⟨y1, y2⟩ | ⟨y1, y⟩; by_cases q9 : (gA G 206 0 ((gA G 242 0 (0 + i0)))) ≠ 0; exact Or.inr ⟨by omega, Or.inr q9⟩; exact Or.inl ⟨by omega, (have q8 := q9; fun z => z.elim y2 q8)⟩; exact Or.inr ⟨by omega, Or.inl y⟩) (by rw [propext ((ex_t hi0.1 hb9))]; rcases hy0 with ⟨y1, y⟩ | ⟨y1, y2⟩; exact Or.inl ⟨by omega, Or.inl y⟩; by_cases q9 : ST (gA G 242 0 (0 + i0)) (gF G 12 0 0) (gF G 12 0 0); exact Or.inl ⟨by have q7 := hms.trans (b2i_t q9); omega, Or.inr q9⟩; exact Or.inr ⟨by have q7 := hms.trans (b2i_f q9); omega, (have q8 := q9; fun z => z.elim y2 q8)⟩) (by rw [sm_t hi0.1 hb9, ← ha5, ← hw0]) (by rw [sm_t hi0.1 hb9, ← ha8, ← hw1]) (by omega)
                  · skip
                    refine pw_aload r_12_fails_136 rfl ?_
                    refine pw_getR r_12_fails_137 fs_12_65 (by decide) ?_
                    refine pw_iload r_12_fails_140 rfl ?_
                    refine pw_zaldv (v := gA G 245 (0) ((0 + i0))) r_12_fails_142 sh245 (by omega) (by omega) (by first | rfl | simp [gF_sF, gF_sA, gF_uA, gF_sD, gA_sF, gA_sA, gA_uA, gA_sD, gD_sF, gD_sA, gD_uA, gD_sD]) ?_
                    refine pw_if_eq r_12_fails_143 (fun h143 => ?_) (fun h143 => ?_)
                    · skip
                      refine pw_const r_12_fails_150 ?_
                      refine pw_istore (ls' := [some (vR 12 (0)), some (vI (set0)), some (vI (set1)), some (vI (0)), some (vI (0)), some (vI (a5)), some (vI (0)), some (vI (0)), some (vI (a8)), some (vI (0)), some (vI (i0)), some (vI ((0 + i0)))]) r_12_fails_151 rfl rfl ?_
                      refine pw_iload r_12_fails_153 rfl ?_
                      refine pw_iload r_12_fails_155 rfl ?_
                      refine pw_if_ne r_12_fails_157 (fun h157 => absurd h157 (by decide)) (fun h157 => ?_)
                      refine pw_aload r_12_fails_160 rfl ?_
                      refine pw_getR r_12_fails_161 fs_12_66 (by decide) ?_
                      refine pw_const r_12_fails_164 ?_
                      refine pw_iload r_12_fails_165 rfl ?_
                      refine pw_imul r_12_fails_167 (by omega) ?_
                      refine pw_ialdv (v := gA G 246 (0) ((2 * (0 + i0)))) r_12_fails_168 sh246 (by omega) (by omega) (by first | rfl | simp [gF_sF, gF_sA, gF_uA, gF_sD, gA_sF, gA_sA, gA_uA, gA_sD, gD_sF, gD_sA, gD_uA, gD_sD]) ?_
                      refine pw_goto r_12_fails_169 ?_
                      refine pw_iaddW r_12_fails_173 ?_
                      refine pw_istore (ls' := [some (vR 12 (0)), some (vI (set0)), some (vI (set1)), some (vI (0)), some (vI (0)), some (vI (wr (a5 + (gA G 246 (0) ((2 * (0 + i0))))))), some (vI (0)), some (vI (0)), some (vI (a8)), some (vI (0)), some (vI (i0)), some (vI ((0 + i0)))]) r_12_fails_174 rfl rfl ?_
                      refine pw_iload r_12_fails_176 rfl ?_
                      refine pw_iload r_12_fails_178 rfl ?_
                      refine pw_const r_12_fails_180 ?_
                      refine pw_icmp_ne r_12_fails_181 (fun h181 => ?_) (fun h181 => absurd h181 (by decide))
                      refine pw_const r_12_fails_196 ?_
                      refine pw_iaddW r_12_fails_197 ?_
                      refine pw_top (b := 0) (by decide) ?_
                      refine pw_istore (ls' := [some (vR 12 (0)), some (vI (set0)), some (vI (set1)), some (vI (0)), some (vI (0)), some (vI (wr (a5 + (gA G 246 (0) ((2 * (0 + i0))))))), some (vI (0)), some (vI (0)), some (vI (a8)), some (vI (0)), some (vI (i0)), some (vI ((0 + i0)))]) r_12_fails_198 rfl rfl ?_
                      refine pw_iload r_12_fails_200 rfl ?_
                      refine pw_iload r_12_fails_202 rfl ?_
                      refine pw_const r_12_fails_204 ?_
                      refine pw_icmp_ne r_12_fails_205 (fun h205 => ?_) (fun h205 => absurd h205 (by decide))
                      refine pw_const r_12_fails_222 ?_
                      refine pw_iaddW r_12_fails_223 ?_
                      refine pw_top (b := 0) (by decide) ?_
                      refine pw_istore (ls' := [some (vR 12 (0)), some (vI (set0)), some (vI (set1)), some (vI (0)), some (vI (0)), some (vI (wr (a5 + (gA G 246 (0) ((2 * (0 + i0))))))), some (vI (0)), some (vI (0)), some (vI (a8)), some (vI (0)), some (vI (i0)), some (vI ((0 + i0)))]) r_12_fails_224 rfl rfl ?_
                      refine pw_iload r_12_fails_226 rfl ?_
                      refine pw_iload r_12_fails_228 rfl ?_
                      refine pw_if_ne r_12_fails_230 (fun h230 => absurd h230 (by decide)) (fun h230 => ?_)
                      refine pw_aload r_12_fails_233 rfl ?_
                      refine pw_getR r_12_fails_234 fs_12_66 (by decide) ?_
                      refine pw_const r_12_fails_237 ?_
                      refine pw_iload r_12_fails_238 rfl ?_
                      refine pw_imul r_12_fails_240 (by omega) ?_
                      refine pw_const r_12_fails_241 ?_
                      refine pw_iadd r_12_fails_242 (by omega) ?_
                      refine pw_ialdv (v := gA G 246 (0) (((2 * (0 + i0)) + 1))) r_12_fails_243 sh246 (by omega) (by omega) (by first | rfl | simp [gF_sF, gF_sA, gF_uA, gF_sD, gA_sF, gA_sA, gA_uA, gA_sD, gD_sF, gD_sA, gD_uA, gD_sD]) ?_
                      refine pw_goto r_12_fails_244 ?_
                      refine pw_iaddW r_12_fails_248 ?_
                      refine pw_istore (ls' := [some (vR 12 (0)), some (vI (set0)), some (vI (set1)), some (vI (0)), some (vI (0)), some (vI (wr (a5 + (gA G 246 (0) ((2 * (0 + i0))))))), some (vI (0)), some (vI (0)), some (vI (wr (a8 + (gA G 246 (0) (((2 * (0 + i0)) + 1)))))), some (vI (0)), some (vI (i0)), some (vI ((0 + i0)))]) r_12_fails_249 rfl rfl ?_
                      refine pw_iinc (b := 0) (ls' := [some (vR 12 (0)), some (vI (set0)), some (vI (set1)), some (vI (0)), some (vI (0)), some (vI (wr (a5 + (gA G 246 (0) ((2 * (0 + i0))))))), some (vI (0)), some (vI (0)), some (vI (wr (a8 + (gA G 246 (0) (((2 * (0 + i0)) + 1)))))), some (vI (0)), some (vI ((i0 + 1))), some (vI ((0 + i0)))]) r_12_fails_251 rfl rfl (by omega) rfl ?_
                      refine pw_goto r_12_fails_254 ?_
                      refine pw_weakL (ls' := [some (vR 12 (0)), some (vI (set0)), some (vI (set1)), some (vI (0)), some (vI (0)), some (vI (wr (a5 + (gA G 246 (0) ((2 * (0 + i0))))))), some (vI (0)), some (vI (0)), some (vI (wr (a8 + (gA G 246 (0) (((2 * (0 + i0)) + 1)))))), some (vI (0)), some (vI ((i0 + 1))), none]) (⟨rfl, ⟨rfl, ⟨rfl, ⟨rfl, ⟨rfl, ⟨rfl, ⟨rfl, ⟨rfl, ⟨rfl, ⟨rfl, ⟨rfl, trivial⟩⟩⟩⟩⟩⟩⟩⟩⟩⟩⟩) ?_
                      refine pw_eqG (G' := uA G 247 (0) ((upA g0 (gA G 242 (0) ((0 + i0))) 1))) (by first | (rw [sA_uA]; done)) ?_
                      exact ih52 ((i0 + 1)) (0) (0) (wr (a5 + (gA G 246 (0) ((2 * (0 + i0)))))) (wr (a8 + (gA G 246 (0) (((2 * (0 + i0)) + 1))))) ((upA g0 (gA G 242 (0) ((0 + i0))) 1)) (by first | assumption | omega) (by intro x x0 x1; by_cases z : x = (gA G 242 0 (0 + i0)); rw [z, upA_same]; exact (b2i_t (((ex_t (Q := fun j => (gA G 242 0 (0 + j)) = (gA G 242 0 (0 + i0))) hi0.1 hb9)).mpr (Or.inr rfl))).symm; rw [upA_ne z, hg0 x x0 x1]; exact b2i_iff ⟨fun y => ((ex_t hi0.1 hb9)).mpr (Or.inl y), fun y => by have y2 := ((ex_t hi0.1 hb9)).mp y; exact y2.resolve_right (fun q => z q.symm)⟩) (by rw [propext ((ex_t hi0.1 hb9))]; rcases ht0 with ⟨y1, y2⟩ | ⟨y1, y⟩; by_cases q9 : (gA G 206 0 ((gA G 242 0 (0 + i0)))) ≠ 0; exact Or.inr ⟨by omega, Or.inr q9⟩; exact Or.inl ⟨by omega, (have q8 := q9; fun z => z.elim y2 q8)⟩; exact Or.inr ⟨by omega, Or.inl y⟩) (by rw [propext ((ex_t hi0.1 hb9))]; rcases hy0 with ⟨y1, y⟩ | ⟨y1, y2⟩; exact Or.inl ⟨by omega, Or.inl y⟩; by_cases q9 : ST (gA G 242 0 (0 + i0)) (gF G 12 0 0) (gF G 12 0 0); exact Or.inl ⟨by have q7 := hms.trans (b2i_t q9); omega, Or.inr q9⟩; exact Or.inr ⟨by have q7 := hms.trans (b2i_f q9); omega, (have q8 := q9; fun z => z.elim y2 q8)⟩) (by rw [sm_t hi0.1 hb9, ← ha5, ← hw0]) (by rw [sm_t hi0.1 hb9, ← ha8, ← hw1]) (by omega)
                    · skip
                      refine pw_const r_12_fails_146 ?_
                      refine pw_goto r_12_fails_147 ?_
                      refine pw_istore (ls' := [some (vR 12 (0)), some (vI (set0)), some (vI (set1)), some (vI (0)), some (vI (1)), some (vI (a5)), some (vI (0)), some (vI (0)), some (vI (a8)), some (vI (0)), some (vI (i0)), some (vI ((0 + i0)))]) r_12_fails_151 rfl rfl ?_
                      refine pw_iload r_12_fails_153 rfl ?_
                      refine pw_iload r_12_fails_155 rfl ?_
                      refine pw_if_ne r_12_fails_157 (fun h157 => absurd h157 (by decide)) (fun h157 => ?_)
                      refine pw_aload r_12_fails_160 rfl ?_
                      refine pw_getR r_12_fails_161 fs_12_66 (by decide) ?_
                      refine pw_const r_12_fails_164 ?_
                      refine pw_iload r_12_fails_165 rfl ?_
                      refine pw_imul r_12_fails_167 (by omega) ?_
                      refine pw_ialdv (v := gA G 246 (0) ((2 * (0 + i0)))) r_12_fails_168 sh246 (by omega) (by omega) (by first | rfl | simp [gF_sF, gF_sA, gF_uA, gF_sD, gA_sF, gA_sA, gA_uA, gA_sD, gD_sF, gD_sA, gD_uA, gD_sD]) ?_
                      refine pw_goto r_12_fails_169 ?_
                      refine pw_iaddW r_12_fails_173 ?_
                      refine pw_istore (ls' := [some (vR 12 (0)), some (vI (set0)), some (vI (set1)), some (vI (0)), some (vI (1)), some (vI (wr (a5 + (gA G 246 (0) ((2 * (0 + i0))))))), some (vI (0)), some (vI (0)), some (vI (a8)), some (vI (0)), some (vI (i0)), some (vI ((0 + i0)))]) r_12_fails_174 rfl rfl ?_
                      refine pw_iload r_12_fails_176 rfl ?_
                      refine pw_iload r_12_fails_178 rfl ?_
                      refine pw_const r_12_fails_180 ?_
                      refine pw_icmp_ne r_12_fails_181 (fun h181 => ?_) (fun h181 => absurd h181 (by decide))
                      refine pw_const r_12_fails_196 ?_
                      refine pw_iaddW r_12_fails_197 ?_
                      refine pw_top (b := 0) (by decide) ?_
                      refine pw_istore (ls' := [some (vR 12 (0)), some (vI (set0)), some (vI (set1)), some (vI (0)), some (vI (1)), some (vI (wr (a5 + (gA G 246 (0) ((2 * (0 + i0))))))), some (vI (0)), some (vI (0)), some (vI (a8)), some (vI (0)), some (vI (i0)), some (vI ((0 + i0)))]) r_12_fails_198 rfl rfl ?_
                      refine pw_iload r_12_fails_200 rfl ?_
                      refine pw_iload r_12_fails_202 rfl ?_
                      refine pw_const r_12_fails_204 ?_
                      refine pw_icmp_ne r_12_fails_205 (fun h205 => ?_) (fun h205 => absurd h205 (by decide))
                      refine pw_const r_12_fails_222 ?_
                      refine pw_iaddW r_12_fails_223 ?_
                      refine pw_top (b := 0) (by decide) ?_
                      refine pw_istore (ls' := [some (vR 12 (0)), some (vI (set0)), some (vI (set1)), some (vI (0)), some (vI (1)), some (vI (wr (a5 + (gA G 246 (0) ((2 * (0 + i0))))))), some (vI (0)), some (vI (0)), some (vI (a8)), some (vI (0)), some (vI (i0)), some (vI ((0 + i0)))]) r_12_fails_224 rfl rfl ?_
                      refine pw_iload r_12_fails_226 rfl ?_
                      refine pw_iload r_12_fails_228 rfl ?_
                      refine pw_if_ne r_12_fails_230 (fun h230 => absurd h230 (by decide)) (fun h230 => ?_)
                      refine pw_aload r_12_fails_233 rfl ?_
                      refine pw_getR r_12_fails_234 fs_12_66 (by decide) ?_
                      refine pw_const r_12_fails_237 ?_
                      refine pw_iload r_12_fails_238 rfl ?_
                      refine pw_imul r_12_fails_240 (by omega) ?_
                      refine pw_const r_12_fails_241 ?_
                      refine pw_iadd r_12_fails_242 (by omega) ?_
                      refine pw_ialdv (v := gA G 246 (0) (((2 * (0 + i0)) + 1))) r_12_fails_243 sh246 (by omega) (by omega) (by first | rfl | simp [gF_sF, gF_sA, gF_uA, gF_sD, gA_sF, gA_sA, gA_uA, gA_sD, gD_sF, gD_sA, gD_uA, gD_sD]) ?_
                      refine pw_goto r_12_fails_244 ?_
                      refine pw_iaddW r_12_fails_248 ?_
                      refine pw_istore (ls' := [some (vR 12 (0)), some (vI (set0)), some (vI (set1)), some (vI (0)), some (vI (1)), some (vI (wr (a5 + (gA G 246 (0) ((2 * (0 + i0))))))), some (vI (0)), some (vI (0)), some (vI (wr (a8 + (gA G 246 (0) (((2 * (0 + i0)) + 1)))))), some (vI (0)), some (vI (i0)), some (vI ((0 + i0)))]) r_12_fails_249 rfl rfl ?_
                      refine pw_iinc (b := 0) (ls' := [some (vR 12 (0)), some (vI (set0)), some (vI (set1)), some (vI (0)), some (vI (1)), some (vI (wr (a5 + (gA G 246 (0) ((2 * (0 + i0))))))), some (vI (0)), some (vI (0)), some (vI (wr (a8 + (gA G 246 (0) (((2 * (0 + i0)) + 1)))))), some (vI (0)), some (vI ((i0 + 1))), some (vI ((0 + i0)))]) r_12_fails_251 rfl rfl (by omega) rfl ?_
                      refine pw_goto r_12_fails_254 ?_
                      refine pw_weakL (ls' := [some (vR 12 (0)), some (vI (set0)), some (vI (set1)), some (vI (0)), some (vI (1)), some (vI (wr (a5 + (gA G 246 (0) ((2 * (0 + i0))))))), some (vI (0)), some (vI (0)), some (vI (wr (a8 + (gA G 246 (0) (((2 * (0 + i0)) + 1)))))), some (vI (0)), some (vI ((i0 + 1))), none]) (⟨rfl, ⟨rfl, ⟨rfl, ⟨rfl, ⟨rfl, ⟨rfl, ⟨rfl, ⟨rfl, ⟨rfl, ⟨rfl, ⟨rfl, trivial⟩⟩⟩⟩⟩⟩⟩⟩⟩⟩⟩) ?_
                      refine pw_eqG (G' := uA G 247 (0) ((upA g0 (gA G 242 (0) ((0 + i0))) 1))) (by first | (rw [sA_uA]; done)) ?_
                      exact ih52 ((i0 + 1)) (0) (1) (wr (a5 + (gA G 246 (0) ((2 * (0 + i0)))))) (wr (a8 + (gA G 246 (0) (((2 * (0 + i0)) + 1))))) ((upA g0 (gA G 242 (0) ((0 + i0))) 1)) (by first | assumption | omega) (by intro x x0 x1; by_cases z : x = (gA G 242 0 (0 + i0)); rw [z, upA_same]; exact (b2i_t (((ex_t (Q := fun j => (gA G 242 0 (0 + j)) = (gA G 242 0 (0 + i0))) hi0.1 hb9)).mpr (Or.inr rfl))).symm; rw [upA_ne z, hg0 x x0 x1]; exact b2i_iff ⟨fun y => ((ex_t hi0.1 hb9)).mpr (Or.inl y), fun y => by have y2 := ((ex_t hi0.1 hb9)).mp y; exact y2.resolve_right (fun q => z q.symm)⟩) (by rw [propext ((ex_t hi0.1 hb9))]; rcases ht0 with ⟨y1, y2⟩ | ⟨y1, y⟩; by_cases q9 : (gA G 206 0 ((gA G 242 0 (0 + i0)))) ≠ 0; exact Or.inr ⟨by omega, Or.inr q9⟩; exact Or.inl ⟨by omega, (have q8 := q9; fun z => z.elim y2 q8)⟩; exact Or.inr ⟨by omega, Or.inl y⟩) (by rw [propext ((ex_t hi0.1 hb9))]; rcases hy0 with ⟨y1, y⟩ | ⟨y1, y2⟩; exact Or.inl ⟨by omega, Or.inl y⟩; by_cases q9 : ST (gA G 242 0 (0 + i0)) (gF G 12 0 0) (gF G 12 0 0); exact Or.inl ⟨by have q7 := hms.trans (b2i_t q9); omega, Or.inr q9⟩; exact Or.inr ⟨by have q7 := hms.trans (b2i_f q9); omega, (have q8 := q9; fun z => z.elim y2 q8)⟩) (by rw [sm_t hi0.1 hb9, ← ha5, ← hw0]) (by rw [sm_t hi0.1 hb9, ← ha8, ← hw1]) (by omega)
                · skip
                  refine pw_aload r_12_fails_110 rfl ?_
                  refine pw_getR r_12_fails_111 fs_12_8 (by decide) ?_
                  refine pw_aload r_12_fails_114 rfl ?_
                  refine pw_getR r_12_fails_115 fs_12_60 (by decide) ?_
                  refine pw_iload r_12_fails_118 rfl ?_
                  refine pw_ialdv (v := gA G 242 (0) ((0 + i0))) r_12_fails_120 sh242 (by omega) (by omega) (by first | rfl | simp [gF_sF, gF_sA, gF_uA, gF_sD, gA_sF, gA_sA, gA_uA, gA_sD, gD_sF, gD_sA, gD_uA, gD_sD]) ?_
                  refine pw_ialdv (v := gA G 206 (0) (gA G 242 (0) ((0 + i0)))) r_12_fails_121 sh206 (by omega) (by omega) (by first | rfl | simp [gF_sF, gF_sA, gF_uA, gF_sD, gA_sF, gA_sA, gA_uA, gA_sD, gD_sF, gD_sA, gD_uA, gD_sD]) ?_
                  refine pw_if_ne r_12_fails_122 (fun h122 => ?_) (fun h122 => ?_)
                  · skip
                    refine pw_const r_12_fails_129 ?_
                    refine pw_istore (ls' := [some (vR 12 (0)), some (vI (set0)), some (vI (set1)), some (vI (0)), some (vI (y0)), some (vI (a5)), some (vI (0)), some (vI (0)), some (vI (a8)), some (vI (0)), some (vI (i0)), some (vI ((0 + i0)))]) r_12_fails_130 rfl rfl ?_
                    refine pw_iload r_12_fails_131 rfl ?_
                    refine pw_if_ne r_12_fails_133 (fun h133 => ?_) (fun h133 => ?_)
                    · skip
                      refine pw_const r_12_fails_146 ?_
                      refine pw_goto r_12_fails_147 ?_
                      refine pw_istore (ls' := [some (vR 12 (0)), some (vI (set0)), some (vI (set1)), some (vI (0)), some (vI (1)), some (vI (a5)), some (vI (0)), some (vI (0)), some (vI (a8)), some (vI (0)), some (vI (i0)), some (vI ((0 + i0)))]) r_12_fails_151 rfl rfl ?_
                      refine pw_iload r_12_fails_153 rfl ?_
                      refine pw_iload r_12_fails_155 rfl ?_
                      refine pw_if_ne r_12_fails_157 (fun h157 => absurd h157 (by decide)) (fun h157 => ?_)
                      refine pw_aload r_12_fails_160 rfl ?_
                      refine pw_getR r_12_fails_161 fs_12_66 (by decide) ?_
                      refine pw_const r_12_fails_164 ?_
                      refine pw_iload r_12_fails_165 rfl ?_
                      refine pw_imul r_12_fails_167 (by omega) ?_
                      refine pw_ialdv (v := gA G 246 (0) ((2 * (0 + i0)))) r_12_fails_168 sh246 (by omega) (by omega) (by first | rfl | simp [gF_sF, gF_sA, gF_uA, gF_sD, gA_sF, gA_sA, gA_uA, gA_sD, gD_sF, gD_sA, gD_uA, gD_sD]) ?_
                      refine pw_goto r_12_fails_169 ?_
                      refine pw_iaddW r_12_fails_173 ?_
                      refine pw_istore (ls' := [some (vR 12 (0)), some (vI (set0)), some (vI (set1)), some (vI (0)), some (vI (1)), some (vI (wr (a5 + (gA G 246 (0) ((2 * (0 + i0))))))), some (vI (0)), some (vI (0)), some (vI (a8)), some (vI (0)), some (vI (i0)), some (vI ((0 + i0)))]) r_12_fails_174 rfl rfl ?_
                      refine pw_iload r_12_fails_176 rfl ?_
                      refine pw_iload r_12_fails_178 rfl ?_
                      refine pw_const r_12_fails_180 ?_
                      refine pw_icmp_ne r_12_fails_181 (fun h181 => ?_) (fun h181 => absurd h181 (by decide))
                      refine pw_const r_12_fails_196 ?_
                      refine pw_iaddW r_12_fails_197 ?_
                      refine pw_top (b := 0) (by decide) ?_
                      refine pw_istore (ls' := [some (vR 12 (0)), some (vI (set0)), some (vI (set1)), some (vI (0)), some (vI (1)), some (vI (wr (a5 + (gA G 246 (0) ((2 * (0 + i0))))))), some (vI (0)), some (vI (0)), some (vI (a8)), some (vI (0)), some (vI (i0)), some (vI ((0 + i0)))]) r_12_fails_198 rfl rfl ?_
                      refine pw_iload r_12_fails_200 rfl ?_
                      refine pw_iload r_12_fails_202 rfl ?_
                      refine pw_const r_12_fails_204 ?_
                      refine pw_icmp_ne r_12_fails_205 (fun h205 => ?_) (fun h205 => absurd h205 (by decide))
                      refine pw_const r_12_fails_222 ?_
                      refine pw_iaddW r_12_fails_223 ?_
                      refine pw_top (b := 0) (by decide) ?_
                      refine pw_istore (ls' := [some (vR 12 (0)), some (vI (set0)), some (vI (set1)), some (vI (0)), some (vI (1)), some (vI (wr (a5 + (gA G 246 (0) ((2 * (0 + i0))))))), some (vI (0)), some (vI (0)), some (vI (a8)), some (vI (0)), some (vI (i0)), some (vI ((0 + i0)))]) r_12_fails_224 rfl rfl ?_
                      refine pw_iload r_12_fails_226 rfl ?_
                      refine pw_iload r_12_fails_228 rfl ?_
                      refine pw_if_ne r_12_fails_230 (fun h230 => absurd h230 (by decide)) (fun h230 => ?_)
                      refine pw_aload r_12_fails_233 rfl ?_
                      refine pw_getR r_12_fails_234 fs_12_66 (by decide) ?_
                      refine pw_const r_12_fails_237 ?_
                      refine pw_iload r_12_fails_238 rfl ?_
                      refine pw_imul r_12_fails_240 (by omega) ?_
                      refine pw_const r_12_fails_241 ?_
                      refine pw_iadd r_12_fails_242 (by omega) ?_
                      refine pw_ialdv (v := gA G 246 (0) (((2 * (0 + i0)) + 1))) r_12_fails_243 sh246 (by omega) (by omega) (by first | rfl | simp [gF_sF, gF_sA, gF_uA, gF_sD, gA_sF, gA_sA, gA_uA, gA_sD, gD_sF, gD_sA, gD_uA, gD_sD]) ?_
                      refine pw_goto r_12_fails_244 ?_
                      refine pw_iaddW r_12_fails_248 ?_
                      refine pw_istore (ls' := [some (vR 12 (0)), some (vI (set0)), some (vI (set1)), some (vI (0)), some (vI (1)), some (vI (wr (a5 + (gA G 246 (0) ((2 * (0 + i0))))))), some (vI (0)), some (vI (0)), some (vI (wr (a8 + (gA G 246 (0) (((2 * (0 + i0)) + 1)))))), some (vI (0)), some (vI (i0)), some (vI ((0 + i0)))]) r_12_fails_249 rfl rfl ?_
                      refine pw_iinc (b := 0) (ls' := [some (vR 12 (0)), some (vI (set0)), some (vI (set1)), some (vI (0)), some (vI (1)), some (vI (wr (a5 + (gA G 246 (0) ((2 * (0 + i0))))))), some (vI (0)), some (vI (0)), some (vI (wr (a8 + (gA G 246 (0) (((2 * (0 + i0)) + 1)))))), some (vI (0)), some (vI ((i0 + 1))), some (vI ((0 + i0)))]) r_12_fails_251 rfl rfl (by omega) rfl ?_
                      refine pw_goto r_12_fails_254 ?_
                      refine pw_weakL (ls' := [some (vR 12 (0)), some (vI (set0)), some (vI (set1)), some (vI (0)), some (vI (1)), some (vI (wr (a5 + (gA G 246 (0) ((2 * (0 + i0))))))), some (vI (0)), some (vI (0)), some (vI (wr (a8 + (gA G 246 (0) (((2 * (0 + i0)) + 1)))))), some (vI (0)), some (vI ((i0 + 1))), none]) (⟨rfl, ⟨rfl, ⟨rfl, ⟨rfl, ⟨rfl, ⟨rfl, ⟨rfl, ⟨rfl, ⟨rfl, ⟨rfl, ⟨rfl, trivial⟩⟩⟩⟩⟩⟩⟩⟩⟩⟩⟩) ?_
                      refine pw_eqG (G' := uA G 247 (0) ((upA g0 (gA G 242 (0) ((0 + i0))) 1))) (by first | (rw [sA_uA]; done)) ?_
                      exact ih52 ((i0 + 1)) (0) (1) (wr (a5 + (gA G 246 (0) ((2 * (0 + i0)))))) (wr (a8 + (gA G 246 (0) (((2 * (0 + i0)) + 1))))) ((upA g0 (gA G 242 (0) ((0 + i0))) 1)) (by first | assumption | omega) (by intro x x0 x1; by_cases z : x = (gA G 242 0 (0 + i0)); rw [z, upA_same]; exact (b2i_t (((ex_t (Q := fun j => (gA G 242 0 (0 + j)) = (gA G 242 0 (0 + i0))) hi0.1 hb9)).mpr (Or.inr rfl))).symm; rw [upA_ne z, hg0 x x0 x1]; exact b2i_iff ⟨fun y => ((ex_t hi0.1 hb9)).mpr (Or.inl y), fun y => by have y2 := ((ex_t hi0.1 hb9)).mp y; exact y2.resolve_right (fun q => z q.symm)⟩) (by rw [propext ((ex_t hi0.1 hb9))]; rcases ht0 with ⟨y1, y2⟩ | ⟨y1, y⟩; by_cases q9 : (gA G 206 0 ((gA G 242 0 (0 + i0)))) ≠ 0; exact Or.inr ⟨by omega, Or.inr q9⟩; exact Or.inl ⟨by omega, (have q8 := q9; fun z => z.elim y2 q8)⟩; exact Or.inr ⟨by omega, Or.inl y⟩) (by rw [propext ((ex_t hi0.1 hb9))]; rcases hy0 with ⟨y1, y⟩ | ⟨y1, y2⟩; exact Or.inl ⟨by omega, Or.inl y⟩; by_cases q9 : ST (gA G 242 0 (0 + i0)) (gF G 12 0 0) (gF G 12 0 0); exact Or.inl ⟨by have q7 := hms.trans (b2i_t q9); omega, Or.inr q9⟩; exact Or.inr ⟨by have q7 := hms.trans (b2i_f q9); omega, (have q8 := q9; fun z => z.elim y2 q8)⟩) (by rw [sm_t hi0.1 hb9, ← ha5, ← hw0]) (by rw [sm_t hi0.1 hb9, ← ha8, ← hw1]) (by omega)
                    · skip
                      refine pw_aload r_12_fails_136 rfl ?_
                      refine pw_getR r_12_fails_137 fs_12_65 (by decide) ?_
                      refine pw_iload r_12_fails_140 rfl ?_
                      refine pw_zaldv (v := gA G 245 (0) ((0 + i0))) r_12_fails_142 sh245 (by omega) (by omega) (by first | rfl | simp [gF_sF, gF_sA, gF_uA, gF_sD, gA_sF, gA_sA, gA_uA, gA_sD, gD_sF, gD_sA, gD_uA, gD_sD]) ?_
                      refine pw_if_eq r_12_fails_143 (fun h143 => ?_) (fun h143 => ?_)
                      · skip
                        refine pw_const r_12_fails_150 ?_
                        refine pw_istore (ls' := [some (vR 12 (0)), some (vI (set0)), some (vI (set1)), some (vI (0)), some (vI (0)), some (vI (a5)), some (vI (0)), some (vI (0)), some (vI (a8)), some (vI (0)), some (vI (i0)), some (vI ((0 + i0)))]) r_12_fails_151 rfl rfl ?_
                        refine pw_iload r_12_fails_153 rfl ?_
                        refine pw_iload r_12_fails_155 rfl ?_
                        refine pw_if_ne r_12_fails_157 (fun h157 => absurd h157 (by decide)) (fun h157 => ?_)
                        refine pw_aload r_12_fails_160 rfl ?_
                        refine pw_getR r_12_fails_161 fs_12_66 (by decide) ?_
                        refine pw_const r_12_fails_164 ?_
                        refine pw_iload r_12_fails_165 rfl ?_
                        refine pw_imul r_12_fails_167 (by omega) ?_
                        refine pw_ialdv (v := gA G 246 (0) ((2 * (0 + i0)))) r_12_fails_168 sh246 (by omega) (by omega) (by first | rfl | simp [gF_sF, gF_sA, gF_uA, gF_sD, gA_sF, gA_sA, gA_uA, gA_sD, gD_sF, gD_sA, gD_uA, gD_sD]) ?_
                        refine pw_goto r_12_fails_169 ?_
                        refine pw_iaddW r_12_fails_173 ?_
                        refine pw_istore (ls' := [some (vR 12 (0)), some (vI (set0)), some (vI (set1)), some (vI (0)), some (vI (0)), some (vI (wr (a5 + (gA G 246 (0) ((2 * (0 + i0))))))), some (vI (0)), some (vI (0)), some (vI (a8)), some (vI (0)), some (vI (i0)), some (vI ((0 + i0)))]) r_12_fails_174 rfl rfl ?_
                        refine pw_iload r_12_fails_176 rfl ?_
                        refine pw_iload r_12_fails_178 rfl ?_
                        refine pw_const r_12_fails_180 ?_
                        refine pw_icmp_ne r_12_fails_181 (fun h181 => ?_) (fun h181 => absurd h181 (by decide))
                        refine pw_const r_12_fails_196 ?_
                        refine pw_iaddW r_12_fails_197 ?_
                        refine pw_top (b := 0) (by decide) ?_
                        refine pw_istore (ls' := [some (vR 12 (0)), some (vI (set0)), some (vI (set1)), some (vI (0)), some (vI (0)), some (vI (wr (a5 + (gA G 246 (0) ((2 * (0 + i0))))))), some (vI (0)), some (vI (0)), some (vI (a8)), some (vI (0)), some (vI (i0)), some (vI ((0 + i0)))]) r_12_fails_198 rfl rfl ?_
                        refine pw_iload r_12_fails_200 rfl ?_
                        refine pw_iload r_12_fails_202 rfl ?_
                        refine pw_const r_12_fails_204 ?_
                        refine pw_icmp_ne r_12_fails_205 (fun h205 => ?_) (fun h205 => absurd h205 (by decide))
                        refine pw_const r_12_fails_222 ?_
                        refine pw_iaddW r_12_fails_223 ?_
                        refine pw_top (b := 0) (by decide) ?_
                        refine pw_istore (ls' := [some (vR 12 (0)), some (vI (set0)), some (vI (set1)), some (vI (0)), some (vI (0)), some (vI (wr (a5 + (gA G 246 (0) ((2 * (0 + i0))))))), some (vI (0)), some (vI (0)), some (vI (a8)), some (vI (0)), some (vI (i0)), some (vI ((0 + i0)))]) r_12_fails_224 rfl rfl ?_
                        refine pw_iload r_12_fails_226 rfl ?_
                        refine pw_iload r_12_fails_228 rfl ?_
                        refine pw_if_ne r_12_fails_230 (fun h230 => absurd h230 (by decide)) (fun h230 => ?_)
                        refine pw_aload r_12_fails_233 rfl ?_
                        refine pw_getR r_12_fails_234 fs_12_66 (by decide) ?_
                        refine pw_const r_12_fails_237 ?_
                        refine pw_iload r_12_fails_238 rfl ?_
                        refine pw_imul r_12_fails_240 (by omega) ?_
                        refine pw_const r_12_fails_241 ?_
                        refine pw_iadd r_12_fails_242 (by omega) ?_
                        refine pw_ialdv (v := gA G 246 (0) (((2 * (0 + i0)) + 1))) r_12_fails_243 sh246 (by omega) (by omega) (by first | rfl | simp [gF_sF, gF_sA, gF_uA, gF_sD, gA_sF, gA_sA, gA_uA, gA_sD, gD_sF, gD_sA, gD_uA, gD_sD]) ?_
                        refine pw_goto r_12_fails_244 ?_
                        refine pw_iaddW r_12_fails_248 ?_
                        refine pw_istore (ls' := [some (vR 12 (0)), some (vI (set0)), some (vI (set1)), some (vI (0)), some (vI (0)), some (vI (wr (a5 + (gA G 246 (0) ((2 * (0 + i0))))))), some (vI (0)), some (vI (0)), some (vI (wr (a8 + (gA G 246 (0) (((2 * (0 + i0)) + 1)))))), some (vI (0)), some (vI (i0)), some (vI ((0 + i0)))]) r_12_fails_249 rfl rfl ?_
                        refine pw_iinc (b := 0) (ls' := [some (vR 12 (0)), some (vI (set0)), some (vI (set1)), some (vI (0)), some (vI (0)), some (vI (wr (a5 + (gA G 246 (0) ((2 * (0 + i0))))))), some (vI (0)), some (vI (0)), some (vI (wr (a8 + (gA G 246 (0) (((2 * (0 + i0)) + 1)))))), some (vI (0)), some (vI ((i0 + 1))), some (vI ((0 + i0)))]) r_12_fails_251 rfl rfl (by omega) rfl ?_
                        refine pw_goto r_12_fails_254 ?_
                        refine pw_weakL (ls' := [some (vR 12 (0)), some (vI (set0)), some (vI (set1)), some (vI (0)), some (vI (0)), some (vI (wr (a5 + (gA G 246 (0) ((2 * (0 + i0))))))), some (vI (0)), some (vI (0)), some (vI (wr (a8 + (gA G 246 (0) (((2 * (0 + i0)) + 1)))))), some (vI (0)), some (vI ((i0 + 1))), none]) (⟨rfl, ⟨rfl, ⟨rfl, ⟨rfl, ⟨rfl, ⟨rfl, ⟨rfl, ⟨rfl, ⟨rfl, ⟨rfl, ⟨rfl, trivial⟩⟩⟩⟩⟩⟩⟩⟩⟩⟩⟩) ?_
                        refine pw_eqG (G' := uA G 247 (0) ((upA g0 (gA G 242 (0) ((0 + i0))) 1))) (by first | (rw [sA_uA]; done)) ?_
                        exact ih52 ((i0 + 1)) (0) (0) (wr (a5 + (gA G 246 (0) ((2 * (0 + i0)))))) (wr (a8 + (gA G 246 (0) (((2 * (0 + i0)) + 1))))) ((upA g0 (gA G 242 (0) ((0 + i0))) 1)) (by first | assumption | omega) (by intro x x0 x1; by_cases z : x = (gA G 242 0 (0 + i0)); rw [z, upA_same]; exact (b2i_t (((ex_t (Q := fun j => (gA G 242 0 (0 + j)) = (gA G 242 0 (0 + i0))) hi0.1 hb9)).mpr (Or.inr rfl))).symm; rw [upA_ne z, hg0 x x0 x1]; exact b2i_iff ⟨fun y => ((ex_t hi0.1 hb9)).mpr (Or.inl y), fun y => by have y2 := ((ex_t hi0.1 hb9)).mp y; exact y2.resolve_right (fun q => z q.symm)⟩) (by rw [propext ((ex_t hi0.1 hb9))]; rcases ht0 with ⟨y1, y2⟩ | ⟨y1, y⟩; by_cases q9 : (gA G 206 0 ((gA G 242 0 (0 + i0)))) ≠ 0; exact Or.inr ⟨by omega, Or.inr q9⟩; exact Or.inl ⟨by omega, (have q8 := q9; fun z => z.elim y2 q8)⟩; exact Or.inr ⟨by omega, Or.inl y⟩) (by rw [propext ((ex_t hi0.1 hb9))]; rcases hy0 with ⟨y1, y⟩ | ⟨y1, y2⟩; exact Or.inl ⟨by omega, Or.inl y⟩; by_cases q9 : ST (gA G 242 0 (0 + i0)) (gF G 12 0 0) (gF G 12 0 0); exact Or.inl ⟨by have q7 := hms.trans (b2i_t q9); omega, Or.inr q9⟩; exact Or.inr ⟨by have q7 := hms.trans (b2i_f q9); omega, (have q8 := q9; fun z => z.elim y2 q8)⟩) (by rw [sm_t hi0.1 hb9, ← ha5, ← hw0]) (by rw [sm_t hi0.1 hb9, ← ha8, ← hw1]) (by omega)
                      · skip
                        refine pw_const r_12_fails_146 ?_
                        refine pw_goto r_12_fails_147 ?_
                        refine pw_istore (ls' := [some (vR 12 (0)), some (vI (set0)), some (vI (set1)), some (vI (0)), some (vI (1)), some (vI (a5)), some (vI (0)), some (vI (0)), some (vI (a8)), some (vI (0)), some (vI (i0)), some (vI ((0 + i0)))]) r_12_fails_151 rfl rfl ?_
                        refine pw_iload r_12_fails_153 rfl ?_
                        refine pw_iload r_12_fails_155 rfl ?_
                        refine pw_if_ne r_12_fails_157 (fun h157 => absurd h157 (by decide)) (fun h157 => ?_)
                        refine pw_aload r_12_fails_160 rfl ?_
                        refine pw_getR r_12_fails_161 fs_12_66 (by decide) ?_
                        refine pw_const r_12_fails_164 ?_
                        refine pw_iload r_12_fails_165 rfl ?_
                        refine pw_imul r_12_fails_167 (by omega) ?_
                        refine pw_ialdv (v := gA G 246 (0) ((2 * (0 + i0)))) r_12_fails_168 sh246 (by omega) (by omega) (by first | rfl | simp [gF_sF, gF_sA, gF_uA, gF_sD, gA_sF, gA_sA, gA_uA, gA_sD, gD_sF, gD_sA, gD_uA, gD_sD]) ?_
                        refine pw_goto r_12_fails_169 ?_
                        refine pw_iaddW r_12_fails_173 ?_
                        refine pw_istore (ls' := [some (vR 12 (0)), some (vI (set0)), some (vI (set1)), some (vI (0)), some (vI (1)), some (vI (wr (a5 + (gA G 246 (0) ((2 * (0 + i0))))))), some (vI (0)), some (vI (0)), some (vI (a8)), some (vI (0)), some (vI (i0)), some (vI ((0 + i0)))]) r_12_fails_174 rfl rfl ?_
                        refine pw_iload r_12_fails_176 rfl ?_
                        refine pw_iload r_12_fails_178 rfl ?_
                        refine pw_const r_12_fails_180 ?_
                        refine pw_icmp_ne r_12_fails_181 (fun h181 => ?_) (fun h181 => absurd h181 (by decide))
                        refine pw_const r_12_fails_196 ?_
                        refine pw_iaddW r_12_fails_197 ?_
                        refine pw_top (b := 0) (by decide) ?_
                        refine pw_istore (ls' := [some (vR 12 (0)), some (vI (set0)), some (vI (set1)), some (vI (0)), some (vI (1)), some (vI (wr (a5 + (gA G 246 (0) ((2 * (0 + i0))))))), some (vI (0)), some (vI (0)), some (vI (a8)), some (vI (0)), some (vI (i0)), some (vI ((0 + i0)))]) r_12_fails_198 rfl rfl ?_
                        refine pw_iload r_12_fails_200 rfl ?_
                        refine pw_iload r_12_fails_202 rfl ?_
                        refine pw_const r_12_fails_204 ?_
                        refine pw_icmp_ne r_12_fails_205 (fun h205 => ?_) (fun h205 => absurd h205 (by decide))
                        refine pw_const r_12_fails_222 ?_
                        refine pw_iaddW r_12_fails_223 ?_
                        refine pw_top (b := 0) (by decide) ?_
                        refine pw_istore (ls' := [some (vR 12 (0)), some (vI (set0)), some (vI (set1)), some (vI (0)), some (vI (1)), some (vI (wr (a5 + (gA G 246 (0) ((2 * (0 + i0))))))), some (vI (0)), some (vI (0)), some (vI (a8)), some (vI (0)), some (vI (i0)), some (vI ((0 + i0)))]) r_12_fails_224 rfl rfl ?_
                        refine pw_iload r_12_fails_226 rfl ?_
                        refine pw_iload r_12_fails_228 rfl ?_
                        refine pw_if_ne r_12_fails_230 (fun h230 => absurd h230 (by decide)) (fun h230 => ?_)
                        refine pw_aload r_12_fails_233 rfl ?_
                        refine pw_getR r_12_fails_234 fs_12_66 (by decide) ?_
                        refine pw_const r_12_fails_237 ?_
                        refine pw_iload r_12_fails_238 rfl ?_
                        refine pw_imul r_12_fails_240 (by omega) ?_
                        refine pw_const r_12_fails_241 ?_
                        refine pw_iadd r_12_fails_242 (by omega) ?_
                        refine pw_ialdv (v := gA G 246 (0) (((2 * (0 + i0)) + 1))) r_12_fails_243 sh246 (by omega) (by omega) (by first | rfl | simp [gF_sF, gF_sA, gF_uA, gF_sD, gA_sF, gA_sA, gA_uA, gA_sD, gD_sF, gD_sA, gD_uA, gD_sD]) ?_
                        refine pw_goto r_12_fails_244 ?_
                        refine pw_iaddW r_12_fails_248 ?_
                        refine pw_istore (ls' := [some (vR 12 (0)), some (vI (set0)), some (vI (set1)), some (vI (0)), some (vI (1)), some (vI (wr (a5 + (gA G 246 (0) ((2 * (0 + i0))))))), some (vI (0)), some (vI (0)), some (vI (wr (a8 + (gA G 246 (0) (((2 * (0 + i0)) + 1)))))), some (vI (0)), some (vI (i0)), some (vI ((0 + i0)))]) r_12_fails_249 rfl rfl ?_
                        refine pw_iinc (b := 0) (ls' := [some (vR 12 (0)), some (vI (set0)), some (vI (set1)), some (vI (0)), some (vI (1)), some (vI (wr (a5 + (gA G 246 (0) ((2 * (0 + i0))))))), some (vI (0)), some (vI (0)), some (vI (wr (a8 + (gA G 246 (0) (((2 * (0 + i0)) + 1)))))), some (vI (0)), some (vI ((i0 + 1))), some (vI ((0 + i0)))]) r_12_fails_251 rfl rfl (by omega) rfl ?_
                        refine pw_goto r_12_fails_254 ?_
                        refine pw_weakL (ls' := [some (vR 12 (0)), some (vI (set0)), some (vI (set1)), some (vI (0)), some (vI (1)), some (vI (wr (a5 + (gA G 246 (0) ((2 * (0 + i0))))))), some (vI (0)), some (vI (0)), some (vI (wr (a8 + (gA G 246 (0) (((2 * (0 + i0)) + 1)))))), some (vI (0)), some (vI ((i0 + 1))), none]) (⟨rfl, ⟨rfl, ⟨rfl, ⟨rfl, ⟨rfl, ⟨rfl, ⟨rfl, ⟨rfl, ⟨rfl, ⟨rfl, ⟨rfl, trivial⟩⟩⟩⟩⟩⟩⟩⟩⟩⟩⟩) ?_
                        refine pw_eqG (G' := uA G 247 (0) ((upA g0 (gA G 242 (0) ((0 + i0))) 1))) (by first | (rw [sA_uA]; done)) ?_
                        exact ih52 ((i0 + 1)) (0) (1) (wr (a5 + (gA G 246 (0) ((2 * (0 + i0)))))) (wr (a8 + (gA G 246 (0) (((2 * (0 + i0)) + 1))))) ((upA g0 (gA G 242 (0) ((0 + i0))) 1)) (by first | assumption | omega) (by intro x x0 x1; by_cases z : x = (gA G 242 0 (0 + i0)); rw [z, upA_same]; exact (b2i_t (((ex_t (Q := fun j => (gA G 242 0 (0 + j)) = (gA G 242 0 (0 + i0))) hi0.1 hb9)).mpr (Or.inr rfl))).symm; rw [upA_ne z, hg0 x x0 x1]; exact b2i_iff ⟨fun y => ((ex_t hi0.1 hb9)).mpr (Or.inl y), fun y => by have y2 := ((ex_t hi0.1 hb9)).mp y; exact y2.resolve_right (fun q => z q.symm)⟩) (by rw [propext ((ex_t hi0.1 hb9))]; rcases ht0 with ⟨y1, y2⟩ | ⟨y1, y⟩; by_cases q9 : (gA G 206 0 ((gA G 242 0 (0 + i0)))) ≠ 0; exact Or.inr ⟨by omega, Or.inr q9⟩; exact Or.inl ⟨by omega, (have q8 := q9; fun z => z.elim y2 q8)⟩; exact Or.inr ⟨by omega, Or.inl y⟩) (by rw [propext ((ex_t hi0.1 hb9))]; rcases hy0 with ⟨y1, y⟩ | ⟨y1, y2⟩; exact Or.inl ⟨by omega, Or.inl y⟩; by_cases q9 : ST (gA G 242 0 (0 + i0)) (gF G 12 0 0) (gF G 12 0 0); exact Or.inl ⟨by have q7 := hms.trans (b2i_t q9); omega, Or.inr q9⟩; exact Or.inr ⟨by have q7 := hms.trans (b2i_f q9); omega, (have q8 := q9; fun z => z.elim y2 q8)⟩) (by rw [sm_t hi0.1 hb9, ← ha5, ← hw0]) (by rw [sm_t hi0.1 hb9, ← ha8, ← hw1]) (by omega)
                  · skip
                    refine pw_const r_12_fails_125 ?_
                    refine pw_goto r_12_fails_126 ?_
                    refine pw_istore (ls' := [some (vR 12 (0)), some (vI (set0)), some (vI (set1)), some (vI (1)), some (vI (y0)), some (vI (a5)), some (vI (0)), some (vI (0)), some (vI (a8)), some (vI (0)), some (vI (i0)), some (vI ((0 + i0)))]) r_12_fails_130 rfl rfl ?_
                    refine pw_iload r_12_fails_131 rfl ?_
                    refine pw_if_ne r_12_fails_133 (fun h133 => ?_) (fun h133 => ?_)
                    · skip
                      refine pw_const r_12_fails_146 ?_
                      refine pw_goto r_12_fails_147 ?_
                      refine pw_istore (ls' := [some (vR 12 (0)), some (vI (set0)), some (vI (set1)), some (vI (1)), some (vI (1)), some (vI (a5)), some (vI (0)), some (vI (0)), some (vI (a8)), some (vI (0)), some (vI (i0)), some (vI ((0 + i0)))]) r_12_fails_151 rfl rfl ?_
                      refine pw_iload r_12_fails_153 rfl ?_
                      refine pw_iload r_12_fails_155 rfl ?_
                      refine pw_if_ne r_12_fails_157 (fun h157 => absurd h157 (by decide)) (fun h157 => ?_)
                      refine pw_aload r_12_fails_160 rfl ?_
                      refine pw_getR r_12_fails_161 fs_12_66 (by decide) ?_
                      refine pw_const r_12_fails_164 ?_
                      refine pw_iload r_12_fails_165 rfl ?_
                      refine pw_imul r_12_fails_167 (by omega) ?_
                      refine pw_ialdv (v := gA G 246 (0) ((2 * (0 + i0)))) r_12_fails_168 sh246 (by omega) (by omega) (by first | rfl | simp [gF_sF, gF_sA, gF_uA, gF_sD, gA_sF, gA_sA, gA_uA, gA_sD, gD_sF, gD_sA, gD_uA, gD_sD]) ?_
                      refine pw_goto r_12_fails_169 ?_
                      refine pw_iaddW r_12_fails_173 ?_
                      refine pw_istore (ls' := [some (vR 12 (0)), some (vI (set0)), some (vI (set1)), some (vI (1)), some (vI (1)), some (vI (wr (a5 + (gA G 246 (0) ((2 * (0 + i0))))))), some (vI (0)), some (vI (0)), some (vI (a8)), some (vI (0)), some (vI (i0)), some (vI ((0 + i0)))]) r_12_fails_174 rfl rfl ?_
                      refine pw_iload r_12_fails_176 rfl ?_
                      refine pw_iload r_12_fails_178 rfl ?_
                      refine pw_const r_12_fails_180 ?_
                      refine pw_icmp_ne r_12_fails_181 (fun h181 => ?_) (fun h181 => absurd h181 (by decide))
                      refine pw_const r_12_fails_196 ?_
                      refine pw_iaddW r_12_fails_197 ?_
                      refine pw_top (b := 0) (by decide) ?_
                      refine pw_istore (ls' := [some (vR 12 (0)), some (vI (set0)), some (vI (set1)), some (vI (1)), some (vI (1)), some (vI (wr (a5 + (gA G 246 (0) ((2 * (0 + i0))))))), some (vI (0)), some (vI (0)), some (vI (a8)), some (vI (0)), some (vI (i0)), some (vI ((0 + i0)))]) r_12_fails_198 rfl rfl ?_
                      refine pw_iload r_12_fails_200 rfl ?_
                      refine pw_iload r_12_fails_202 rfl ?_
                      refine pw_const r_12_fails_204 ?_
                      refine pw_icmp_ne r_12_fails_205 (fun h205 => ?_) (fun h205 => absurd h205 (by decide))
                      refine pw_const r_12_fails_222 ?_
                      refine pw_iaddW r_12_fails_223 ?_
                      refine pw_top (b := 0) (by decide) ?_
                      refine pw_istore (ls' := [some (vR 12 (0)), some (vI (set0)), some (vI (set1)), some (vI (1)), some (vI (1)), some (vI (wr (a5 + (gA G 246 (0) ((2 * (0 + i0))))))), some (vI (0)), some (vI (0)), some (vI (a8)), some (vI (0)), some (vI (i0)), some (vI ((0 + i0)))]) r_12_fails_224 rfl rfl ?_
                      refine pw_iload r_12_fails_226 rfl ?_
                      refine pw_iload r_12_fails_228 rfl ?_
                      refine pw_if_ne r_12_fails_230 (fun h230 => absurd h230 (by decide)) (fun h230 => ?_)
                      refine pw_aload r_12_fails_233 rfl ?_
                      refine pw_getR r_12_fails_234 fs_12_66 (by decide) ?_
                      refine pw_const r_12_fails_237 ?_
                      refine pw_iload r_12_fails_238 rfl ?_
                      refine pw_imul r_12_fails_240 (by omega) ?_
                      refine pw_const r_12_fails_241 ?_
                      refine pw_iadd r_12_fails_242 (by omega) ?_
                      refine pw_ialdv (v := gA G 246 (0) (((2 * (0 + i0)) + 1))) r_12_fails_243 sh246 (by omega) (by omega) (by first | rfl | simp [gF_sF, gF_sA, gF_uA, gF_sD, gA_sF, gA_sA, gA_uA, gA_sD, gD_sF, gD_sA, gD_uA, gD_sD]) ?_
                      refine pw_goto r_12_fails_244 ?_
                      refine pw_iaddW r_12_fails_248 ?_
                      refine pw_istore (ls' := [some (vR 12 (0)), some (vI (set0)), some (vI (set1)), some (vI (1)), some (vI (1)), some (vI (wr (a5 + (gA G 246 (0) ((2 * (0 + i0))))))), some (vI (0)), some (vI (0)), some (vI (wr (a8 + (gA G 246 (0) (((2 * (0 + i0)) + 1)))))), some (vI (0)), some (vI (i0)), some (vI ((0 + i0)))]) r_12_fails_249 rfl rfl ?_
                      refine pw_iinc (b := 0) (ls' := [some (vR 12 (0)), some (vI (set0)), some (vI (set1)), some (vI (1)), some (vI (1)), some (vI (wr (a5 + (gA G 246 (0) ((2 * (0 + i0))))))), some (vI (0)), some (vI (0)), some (vI (wr (a8 + (gA G 246 (0) (((2 * (0 + i0)) + 1)))))), some (vI (0)), some (vI ((i0 + 1))), some (vI ((0 + i0)))]) r_12_fails_251 rfl rfl (by omega) rfl ?_
                      refine pw_goto r_12_fails_254 ?_
                      refine pw_weakL (ls' := [some (vR 12 (0)), some (vI (set0)), some (vI (set1)), some (vI (1)), some (vI (1)), some (vI (wr (a5 + (gA G 246 (0) ((2 * (0 + i0))))))), some (vI (0)), some (vI (0)), some (vI (wr (a8 + (gA G 246 (0) (((2 * (0 + i0)) + 1)))))), some (vI (0)), some (vI ((i0 + 1))), none]) (⟨rfl, ⟨rfl, ⟨rfl, ⟨rfl, ⟨rfl, ⟨rfl, ⟨rfl, ⟨rfl, ⟨rfl, ⟨rfl, ⟨rfl, trivial⟩⟩⟩⟩⟩⟩⟩⟩⟩⟩⟩) ?_
                      refine pw_eqG (G' := uA G 247 (0) ((upA g0 (gA G 242 (0) ((0 + i0))) 1))) (by first | (rw [sA_uA]; done)) ?_
                      exact ih52 ((i0 + 1)) (1) (1) (wr (a5 + (gA G 246 (0) ((2 * (0 + i0)))))) (wr (a8 + (gA G 246 (0) (((2 * (0 + i0)) + 1))))) ((upA g0 (gA G 242 (0) ((0 + i0))) 1)) (by first | assumption | omega) (by intro x x0 x1; by_cases z : x = (gA G 242 0 (0 + i0)); rw [z, upA_same]; exact (b2i_t (((ex_t (Q := fun j => (gA G 242 0 (0 + j)) = (gA G 242 0 (0 + i0))) hi0.1 hb9)).mpr (Or.inr rfl))).symm; rw [upA_ne z, hg0 x x0 x1]; exact b2i_iff ⟨fun y => ((ex_t hi0.1 hb9)).mpr (Or.inl y), fun y => by have y2 := ((ex_t hi0.1 hb9)).mp y; exact y2.resolve_right (fun q => z q.symm)⟩) (by rw [propext ((ex_t hi0.1 hb9))]; rcases ht0 with ⟨y1, y2⟩ | ⟨y1, y⟩; by_cases q9 : (gA G 206 0 ((gA G 242 0 (0 + i0)))) ≠ 0; exact Or.inr ⟨by omega, Or.inr q9⟩; exact Or.inl ⟨by omega, (have q8 := q9; fun z => z.elim y2 q8)⟩; exact Or.inr ⟨by omega, Or.inl y⟩) (by rw [propext ((ex_t hi0.1 hb9))]; rcases hy0 with ⟨y1, y⟩ | ⟨y1, y2⟩; exact Or.inl ⟨by omega, Or.inl y⟩; by_cases q9 : ST (gA G 242 0 (0 + i0)) (gF G 12 0 0) (gF G 12 0 0); exact Or.inl ⟨by have q7 := hms.trans (b2i_t q9); omega, Or.inr q9⟩; exact Or.inr ⟨by have q7 := hms.trans (b2i_f q9); omega, (have q8 := q9; fun z => z.elim y2 q8)⟩) (by rw [sm_t hi0.1 hb9, ← ha5, ← hw0]) (by rw [sm_t hi0.1 hb9, ← ha8, ← hw1]) (by omega)
                    · skip
                      refine pw_aload r_12_fails_136 rfl ?_
                      refine pw_getR r_12_fails_137 fs_12_65 (by decide) ?_
                      refine pw_iload r_12_fails_140 rfl ?_
                      refine pw_zaldv (v := gA G 245 (0) ((0 + i0))) r_12_fails_142 sh245 (by omega) (by omega) (by first | rfl | simp [gF_sF, gF_sA, gF_uA, gF_sD, gA_sF, gA_sA, gA_uA, gA_sD, gD_sF, gD_sA, gD_uA, gD_sD]) ?_
                      refine pw_if_eq r_12_fails_143 (fun h143 => ?_) (fun h143 => ?_)
                      · skip
                        refine pw_const r_12_fails_150 ?_
                        refine pw_istore (ls' := [some (vR 12 (0)), some (vI (set0)), some (vI (set1)), some (vI (1)), some (vI (0)), some (vI (a5)), some (vI (0)), some (vI (0)), some (vI (a8)), some (vI (0)), some (vI (i0)), some (vI ((0 + i0)))]) r_12_fails_151 rfl rfl ?_
                        refine pw_iload r_12_fails_153 rfl ?_
                        refine pw_iload r_12_fails_155 rfl ?_
                        refine pw_if_ne r_12_fails_157 (fun h157 => absurd h157 (by decide)) (fun h157 => ?_)
                        refine pw_aload r_12_fails_160 rfl ?_
                        refine pw_getR r_12_fails_161 fs_12_66 (by decide) ?_
                        refine pw_const r_12_fails_164 ?_
                        refine pw_iload r_12_fails_165 rfl ?_
                        refine pw_imul r_12_fails_167 (by omega) ?_
                        refine pw_ialdv (v := gA G 246 (0) ((2 * (0 + i0)))) r_12_fails_168 sh246 (by omega) (by omega) (by first | rfl | simp [gF_sF, gF_sA, gF_uA, gF_sD, gA_sF, gA_sA, gA_uA, gA_sD, gD_sF, gD_sA, gD_uA, gD_sD]) ?_
                        refine pw_goto r_12_fails_169 ?_
                        refine pw_iaddW r_12_fails_173 ?_
                        refine pw_istore (ls' := [some (vR 12 (0)), some (vI (set0)), some (vI (set1)), some (vI (1)), some (vI (0)), some (vI (wr (a5 + (gA G 246 (0) ((2 * (0 + i0))))))), some (vI (0)), some (vI (0)), some (vI (a8)), some (vI (0)), some (vI (i0)), some (vI ((0 + i0)))]) r_12_fails_174 rfl rfl ?_
                        refine pw_iload r_12_fails_176 rfl ?_
                        refine pw_iload r_12_fails_178 rfl ?_
                        refine pw_const r_12_fails_180 ?_
                        refine pw_icmp_ne r_12_fails_181 (fun h181 => ?_) (fun h181 => absurd h181 (by decide))
                        refine pw_const r_12_fails_196 ?_
                        refine pw_iaddW r_12_fails_197 ?_
                        refine pw_top (b := 0) (by decide) ?_
                        refine pw_istore (ls' := [some (vR 12 (0)), some (vI (set0)), some (vI (set1)), some (vI (1)), some (vI (0)), some (vI (wr (a5 + (gA G 246 (0) ((2 * (0 + i0))))))), some (vI (0)), some (vI (0)), some (vI (a8)), some (vI (0)), some (vI (i0)), some (vI ((0 + i0)))]) r_12_fails_198 rfl rfl ?_
                        refine pw_iload r_12_fails_200 rfl ?_
                        refine pw_iload r_12_fails_202 rfl ?_
                        refine pw_const r_12_fails_204 ?_
                        refine pw_icmp_ne r_12_fails_205 (fun h205 => ?_) (fun h205 => absurd h205 (by decide))
                        refine pw_const r_12_fails_222 ?_
                        refine pw_iaddW r_12_fails_223 ?_
                        refine pw_top (b := 0) (by decide) ?_
                        refine pw_istore (ls' := [some (vR 12 (0)), some (vI (set0)), some (vI (set1)), some (vI (1)), some (vI (0)), some (vI (wr (a5 + (gA G 246 (0) ((2 * (0 + i0))))))), some (vI (0)), some (vI (0)), some (vI (a8)), some (vI (0)), some (vI (i0)), some (vI ((0 + i0)))]) r_12_fails_224 rfl rfl ?_
                        refine pw_iload r_12_fails_226 rfl ?_
                        refine pw_iload r_12_fails_228 rfl ?_
                        refine pw_if_ne r_12_fails_230 (fun h230 => absurd h230 (by decide)) (fun h230 => ?_)
                        refine pw_aload r_12_fails_233 rfl ?_
                        refine pw_getR r_12_fails_234 fs_12_66 (by decide) ?_
                        refine pw_const r_12_fails_237 ?_
                        refine pw_iload r_12_fails_238 rfl ?_
                        refine pw_imul r_12_fails_240 (by omega) ?_
                        refine pw_const r_12_fails_241 ?_
                        refine pw_iadd r_12_fails_242 (by omega) ?_
                        refine pw_ialdv (v := gA G 246 (0) (((2 * (0 + i0)) + 1))) r_12_fails_243 sh246 (by omega) (by omega) (by first | rfl | simp [gF_sF, gF_sA, gF_uA, gF_sD, gA_sF, gA_sA, gA_uA, gA_sD, gD_sF, gD_sA, gD_uA, gD_sD]) ?_
                        refine pw_goto r_12_fails_244 ?_
                        refine pw_iaddW r_12_fails_248 ?_
                        refine pw_istore (ls' := [some (vR 12 (0)), some (vI (set0)), some (vI (set1)), some (vI (1)), some (vI (0)), some (vI (wr (a5 + (gA G 246 (0) ((2 * (0 + i0))))))), some (vI (0)), some (vI (0)), some (vI (wr (a8 + (gA G 246 (0) (((2 * (0 + i0)) + 1)))))), some (vI (0)), some (vI (i0)), some (vI ((0 + i0)))]) r_12_fails_249 rfl rfl ?_
                        refine pw_iinc (b := 0) (ls' := [some (vR 12 (0)), some (vI (set0)), some (vI (set1)), some (vI (1)), some (vI (0)), some (vI (wr (a5 + (gA G 246 (0) ((2 * (0 + i0))))))), some (vI (0)), some (vI (0)), some (vI (wr (a8 + (gA G 246 (0) (((2 * (0 + i0)) + 1)))))), some (vI (0)), some (vI ((i0 + 1))), some (vI ((0 + i0)))]) r_12_fails_251 rfl rfl (by omega) rfl ?_
                        refine pw_goto r_12_fails_254 ?_
                        refine pw_weakL (ls' := [some (vR 12 (0)), some (vI (set0)), some (vI (set1)), some (vI (1)), some (vI (0)), some (vI (wr (a5 + (gA G 246 (0) ((2 * (0 + i0))))))), some (vI (0)), some (vI (0)), some (vI (wr (a8 + (gA G 246 (0) (((2 * (0 + i0)) + 1)))))), some (vI (0)), some (vI ((i0 + 1))), none]) (⟨rfl, ⟨rfl, ⟨rfl, ⟨rfl, ⟨rfl, ⟨rfl, ⟨rfl, ⟨rfl, ⟨rfl, ⟨rfl, ⟨rfl, trivial⟩⟩⟩⟩⟩⟩⟩⟩⟩⟩⟩) ?_
                        refine pw_eqG (G' := uA G 247 (0) ((upA g0 (gA G 242 (0) ((0 + i0))) 1))) (by first | (rw [sA_uA]; done)) ?_
                        exact ih52 ((i0 + 1)) (1) (0) (wr (a5 + (gA G 246 (0) ((2 * (0 + i0)))))) (wr (a8 + (gA G 246 (0) (((2 * (0 + i0)) + 1))))) ((upA g0 (gA G 242 (0) ((0 + i0))) 1)) (by first | assumption | omega) (by intro x x0 x1; by_cases z : x = (gA G 242 0 (0 + i0)); rw [z, upA_same]; exact (b2i_t (((ex_t (Q := fun j => (gA G 242 0 (0 + j)) = (gA G 242 0 (0 + i0))) hi0.1 hb9)).mpr (Or.inr rfl))).symm; rw [upA_ne z, hg0 x x0 x1]; exact b2i_iff ⟨fun y => ((ex_t hi0.1 hb9)).mpr (Or.inl y), fun y => by have y2 := ((ex_t hi0.1 hb9)).mp y; exact y2.resolve_right (fun q => z q.symm)⟩) (by rw [propext ((ex_t hi0.1 hb9))]; rcases ht0 with ⟨y1, y2⟩ | ⟨y1, y⟩; by_cases q9 : (gA G 206 0 ((gA G 242 0 (0 + i0)))) ≠ 0; exact Or.inr ⟨by omega, Or.inr q9⟩; exact Or.inl ⟨by omega, (have q8 := q9; fun z => z.elim y2 q8)⟩; exact Or.inr ⟨by omega, Or.inl y⟩) (by rw [propext ((ex_t hi0.1 hb9))]; rcases hy0 with ⟨y1, y⟩ | ⟨y1, y2⟩; exact Or.inl ⟨by omega, Or.inl y⟩; by_cases q9 : ST (gA G 242 0 (0 + i0)) (gF G 12 0 0) (gF G 12 0 0); exact Or.inl ⟨by have q7 := hms.trans (b2i_t q9); omega, Or.inr q9⟩; exact Or.inr ⟨by have q7 := hms.trans (b2i_f q9); omega, (have q8 := q9; fun z => z.elim y2 q8)⟩) (by rw [sm_t hi0.1 hb9, ← ha5, ← hw0]) (by rw [sm_t hi0.1 hb9, ← ha8, ← hw1]) (by omega)
                      · skip
                        refine pw_const r_12_fails_146 ?_
                        refine pw_goto r_12_fails_147 ?_
                        refine pw_istore (ls' := [some (vR 12 (0)), some (vI (set0)), some (vI (set1)), some (vI (1)), some (vI (1)), some (vI (a5)), some (vI (0)), some (vI (0)), some (vI (a8)), some (vI (0)), some (vI (i0)), some (vI ((0 + i0)))]) r_12_fails_151 rfl rfl ?_
                        refine pw_iload r_12_fails_153 rfl ?_
                        refine pw_iload r_12_fails_155 rfl ?_
                        refine pw_if_ne r_12_fails_157 (fun h157 => absurd h157 (by decide)) (fun h157 => ?_)
                        refine pw_aload r_12_fails_160 rfl ?_
                        refine pw_getR r_12_fails_161 fs_12_66 (by decide) ?_
                        refine pw_const r_12_fails_164 ?_
                        refine pw_iload r_12_fails_165 rfl ?_
                        refine pw_imul r_12_fails_167 (by omega) ?_
                        refine pw_ialdv (v := gA G 246 (0) ((2 * (0 + i0)))) r_12_fails_168 sh246 (by omega) (by omega) (by first | rfl | simp [gF_sF, gF_sA, gF_uA, gF_sD, gA_sF, gA_sA, gA_uA, gA_sD, gD_sF, gD_sA, gD_uA, gD_sD]) ?_
                        refine pw_goto r_12_fails_169 ?_
                        refine pw_iaddW r_12_fails_173 ?_
                        refine pw_istore (ls' := [some (vR 12 (0)), some (vI (set0)), some (vI (set1)), some (vI (1)), some (vI (1)), some (vI (wr (a5 + (gA G 246 (0) ((2 * (0 + i0))))))), some (vI (0)), some (vI (0)), some (vI (a8)), some (vI (0)), some (vI (i0)), some (vI ((0 + i0)))]) r_12_fails_174 rfl rfl ?_
                        refine pw_iload r_12_fails_176 rfl ?_
                        refine pw_iload r_12_fails_178 rfl ?_
                        refine pw_const r_12_fails_180 ?_
                        refine pw_icmp_ne r_12_fails_181 (fun h181 => ?_) (fun h181 => absurd h181 (by decide))
                        refine pw_const r_12_fails_196 ?_
                        refine pw_iaddW r_12_fails_197 ?_
                        refine pw_top (b := 0) (by decide) ?_
                        refine pw_istore (ls' := [some (vR 12 (0)), some (vI (set0)), some (vI (set1)), some (vI (1)), some (vI (1)), some (vI (wr (a5 + (gA G 246 (0) ((2 * (0 + i0))))))), some (vI (0)), some (vI (0)), some (vI (a8)), some (vI (0)), some (vI (i0)), some (vI ((0 + i0)))]) r_12_fails_198 rfl rfl ?_
                        refine pw_iload r_12_fails_200 rfl ?_
                        refine pw_iload r_12_fails_202 rfl ?_
                        refine pw_const r_12_fails_204 ?_
                        refine pw_icmp_ne r_12_fails_205 (fun h205 => ?_) (fun h205 => absurd h205 (by decide))
                        refine pw_const r_12_fails_222 ?_
                        refine pw_iaddW r_12_fails_223 ?_
                        refine pw_top (b := 0) (by decide) ?_
                        refine pw_istore (ls' := [some (vR 12 (0)), some (vI (set0)), some (vI (set1)), some (vI (1)), some (vI (1)), some (vI (wr (a5 + (gA G 246 (0) ((2 * (0 + i0))))))), some (vI (0)), some (vI (0)), some (vI (a8)), some (vI (0)), some (vI (i0)), some (vI ((0 + i0)))]) r_12_fails_224 rfl rfl ?_
                        refine pw_iload r_12_fails_226 rfl ?_
                        refine pw_iload r_12_fails_228 rfl ?_
                        refine pw_if_ne r_12_fails_230 (fun h230 => absurd h230 (by decide)) (fun h230 => ?_)
                        refine pw_aload r_12_fails_233 rfl ?_
                        refine pw_getR r_12_fails_234 fs_12_66 (by decide) ?_
                        refine pw_const r_12_fails_237 ?_
                        refine pw_iload r_12_fails_238 rfl ?_
                        refine pw_imul r_12_fails_240 (by omega) ?_
                        refine pw_const r_12_fails_241 ?_
                        refine pw_iadd r_12_fails_242 (by omega) ?_
                        refine pw_ialdv (v := gA G 246 (0) (((2 * (0 + i0)) + 1))) r_12_fails_243 sh246 (by omega) (by omega) (by first | rfl | simp [gF_sF, gF_sA, gF_uA, gF_sD, gA_sF, gA_sA, gA_uA, gA_sD, gD_sF, gD_sA, gD_uA, gD_sD]) ?_
                        refine pw_goto r_12_fails_244 ?_
                        refine pw_iaddW r_12_fails_248 ?_
                        refine pw_istore (ls' := [some (vR 12 (0)), some (vI (set0)), some (vI (set1)), some (vI (1)), some (vI (1)), some (vI (wr (a5 + (gA G 246 (0) ((2 * (0 + i0))))))), some (vI (0)), some (vI (0)), some (vI (wr (a8 + (gA G 246 (0) (((2 * (0 + i0)) + 1)))))), some (vI (0)), some (vI (i0)), some (vI ((0 + i0)))]) r_12_fails_249 rfl rfl ?_
                        refine pw_iinc (b := 0) (ls' := [some (vR 12 (0)), some (vI (set0)), some (vI (set1)), some (vI (1)), some (vI (1)), some (vI (wr (a5 + (gA G 246 (0) ((2 * (0 + i0))))))), some (vI (0)), some (vI (0)), some (vI (wr (a8 + (gA G 246 (0) (((2 * (0 + i0)) + 1)))))), some (vI (0)), some (vI ((i0 + 1))), some (vI ((0 + i0)))]) r_12_fails_251 rfl rfl (by omega) rfl ?_
                        refine pw_goto r_12_fails_254 ?_
                        refine pw_weakL (ls' := [some (vR 12 (0)), some (vI (set0)), some (vI (set1)), some (vI (1)), some (vI (1)), some (vI (wr (a5 + (gA G 246 (0) ((2 * (0 + i0))))))), some (vI (0)), some (vI (0)), some (vI (wr (a8 + (gA G 246 (0) (((2 * (0 + i0)) + 1)))))), some (vI (0)), some (vI ((i0 + 1))), none]) (⟨rfl, ⟨rfl, ⟨rfl, ⟨rfl, ⟨rfl, ⟨rfl, ⟨rfl, ⟨rfl, ⟨rfl, ⟨rfl, ⟨rfl, trivial⟩⟩⟩⟩⟩⟩⟩⟩⟩⟩⟩) ?_
                        refine pw_eqG (G' := uA G 247 (0) ((upA g0 (gA G 242 (0) ((0 + i0))) 1))) (by first | (rw [sA_uA]; done)) ?_
                        exact ih52 ((i0 + 1)) (1) (1) (wr (a5 + (gA G 246 (0) ((2 * (0 + i0)))))) (wr (a8 + (gA G 246 (0) (((2 * (0 + i0)) + 1))))) ((upA g0 (gA G 242 (0) ((0 + i0))) 1)) (by first | assumption | omega) (by intro x x0 x1; by_cases z : x = (gA G 242 0 (0 + i0)); rw [z, upA_same]; exact (b2i_t (((ex_t (Q := fun j => (gA G 242 0 (0 + j)) = (gA G 242 0 (0 + i0))) hi0.1 hb9)).mpr (Or.inr rfl))).symm; rw [upA_ne z, hg0 x x0 x1]; exact b2i_iff ⟨fun y => ((ex_t hi0.1 hb9)).mpr (Or.inl y), fun y => by have y2 := ((ex_t hi0.1 hb9)).mp y; exact y2.resolve_right (fun q => z q.symm)⟩) (by rw [propext ((ex_t hi0.1 hb9))]; rcases ht0 with ⟨y1, y2⟩ | ⟨y1, y⟩; by_cases q9 : (gA G 206 0 ((gA G 242 0 (0 + i0)))) ≠ 0; exact Or.inr ⟨by omega, Or.inr q9⟩; exact Or.inl ⟨by omega, (have q8 := q9; fun z => z.elim y2 q8)⟩; exact Or.inr ⟨by omega, Or.inl y⟩) (by rw [propext ((ex_t hi0.1 hb9))]; rcases hy0 with ⟨y1, y⟩ | ⟨y1, y2⟩; exact Or.inl ⟨by omega, Or.inl y⟩; by_cases q9 : ST (gA G 242 0 (0 + i0)) (gF G 12 0 0) (gF G 12 0 0); exact Or.inl ⟨by have q7 := hms.trans (b2i_t q9); omega, Or.inr q9⟩; exact Or.inr ⟨by have q7 := hms.trans (b2i_f q9); omega, (have q8 := q9; fun z => z.elim y2 q8)⟩) (by rw [sm_t hi0.1 hb9, ← ha5, ← hw0]) (by rw [sm_t hi0.1 hb9, ← ha8, ← hw1]) (by omega)
        exact L52 _ (0) (1) (0) (0) (0) (gz) (by first | assumption | omega) (by intro x x0 x1; rw [hz x x0 (by omega)]; exact (b2i_f ex_0).symm) (Or.inl ⟨rfl, ex_0⟩) (Or.inr ⟨rfl, ex_0⟩) (rfl) (rfl) (Nat.lt_succ_self _)
      · skip
        refine pw_aload r_12_fails_10 rfl ?_
        refine pw_getR r_12_fails_11 fs_12_67 (by decide) ?_
        refine pw_iload r_12_fails_14 rfl ?_
        refine pw_const r_12_fails_15 ?_
        refine pw_zast r_12_fails_16 sh247 (by omega) (by omega) (by omega) ?_
        refine pw_iinc (b := 0) (ls' := [some (vR 12 (0)), some (vI (set0)), some (vI (set1)), some (vI ((p + 1))), none, none, none, none, none, none, none, none]) r_12_fails_17 rfl rfl (by omega) rfl ?_
        refine pw_goto r_12_fails_20 ?_
        refine pw_eqG (G' := uA G 247 (0) ((upA gz p 0))) (by rw [sA_uA]) ?_
        exact ih2 ((p + 1)) ((upA gz p 0)) (by first | assumption | omega) (by intro x a b; by_cases z : x = p; rw [z, upA_same]; rw [upA_ne z]; exact hz x a (by omega)) (by omega)
  refine pw_eqG (G' := uA G 247 (0) ((gA G 247 0))) ((uA_own _ 247 0).symm) ?_
  exact L2 _ (0) ((gA G 247 0)) (by first | assumption | omega) (fun x a b => by omega) (Nat.lt_succ_self _)
set_option maxRecDepth 10000 in
theorem sp_X12_judge {l : Launch} {w : Wo} {d : Nat} {G : PH} {P : Option PV → PH → Prop} {set0 set1 : Int} {ST : Int → Int → Int → Prop} {WT : Int → Int → Int → Int → Int} {SD : Int → Int → Int → Int → Int → Int × Int} {FC : Int → Int → Int → Int} {KC : Int → Int → Int → Int → Int} (hsz : 0 ≤ (gF G 12 0 17) ∧ (gF G 12 0 17) ≤ 150) (hf : 0 ≤ (gF G 12 0 27) ∧ (gF G 12 0 27) ≤ 300) (hlt : 0 ≤ (gF G 12 0 29) ∧ (gF G 12 0 29) ≤ 60) (hofs : ∀ i, 0 ≤ i → i < (gF G 12 0 27) → 0 ≤ (gA G 219 0 (i)) ∧ (gA G 219 0 (i)) < 150) (hsent : ∀ l, 0 ≤ l → l < (gF G 12 0 29) → 0 ≤ (gA G 223 0 (l)) ∧ (gA G 223 0 (l)) ≤ 600) (hpr : 0 ≤ (gF G 12 0 34) ∧ (gF G 12 0 34) ≤ 40) (htx : 0 ≤ (gF G 12 0 42) ∧ (gF G 12 0 42) ≤ 20) (hTX : txM G) (hSD : sdM G = SD) (hFC : fcM G = FC) (hKC : kM G = KC) (hcA : ∀ i, 0 ≤ i → i < (gF G 12 0 17) → 0 ≤ (gA G 212 0 (i)) ∧ (gA G 212 0 (i)) ≤ 600) (hsA : ∀ i, 0 ≤ i → i < (gF G 12 0 17) → 0 ≤ (gA G 205 0 (i)) ∧ (gA G 205 0 (i)) ≤ 1) (hlv : ∀ s i, 0 ≤ s → s < 2 → 0 ≤ i → i < (gA G 243 0 (s)) → 0 ≤ (gA G 242 0 (7 * s + i)) ∧ (gA G 242 0 (7 * s + i)) < (gF G 12 0 17)) (hof : ∀ s, 0 ≤ s → s < 2 → 0 ≤ (gA G 243 0 (s)) ∧ (gA G 243 0 (s)) ≤ 7) (hdd : 0 ≤ (gF G 12 0 0) ∧ (gF G 12 0 0) ≤ 600) (hwi : ∀ x, 0 ≤ x → x < (gF G 12 0 17) → (gA G 209 0 (x)) = -1 ∨ (0 ≤ (gA G 209 0 (x)) ∧ (gA G 209 0 (x)) < (gF G 12 0 17))) (hc : 0 ≤ (gF G 12 0 3) ∧ (gF G 12 0 3) ≤ 16) (hr : 1 ≤ (gF G 12 0 62) ∧ (gF G 12 0 62) ≤ 99) (hST : stM G = ST) (hWT : wtM G = WT) (h1 : ¬ ((0 ≤ set0 ∧ set0 < pShl 1 (gA G 243 0 (0))) ∧ 0 ≤ set1 ∧ set1 < pShl 1 (gA G 243 0 (1))) → P (some (vI (-1))) G) (h2 : ((0 ≤ set0 ∧ set0 < pShl 1 (gA G 243 0 (0))) ∧ 0 ≤ set1 ∧ set1 < pShl 1 (gA G 243 0 (1))) → ∀ (g : FQ) (gg : Int → Int), P (some (vI (vdM G ST WT set0 set1))) (uA (fndM G g) 247 0 (gg))) : PW l w M_X12_judge (d + 101) 0 [some (vR 12 (0)), some (vI (set0)), some (vI (set1))] [] G P := by
  refine pw_rng (i := 1) rfl (fun hj0 => ?_)
  have hj0 : -2147483648 ≤ set0 ∧ set0 < 2147483648 := hj0
  refine pw_rng (i := 2) rfl (fun hj1 => ?_)
  have hj1 : -2147483648 ≤ set1 ∧ set1 < 2147483648 := hj1
  have hv0 := shr_iff hj0 (hof 0 (by decide) (by decide))
  have hv1 := shr_iff hj1 (hof 1 (by decide) (by decide))
  refine pw_iload r_12_judge_0 rfl ?_
  refine pw_aload r_12_judge_1 rfl ?_
  refine pw_getR r_12_judge_2 fs_12_61 (by decide) ?_
  refine pw_const r_12_judge_5 ?_
  refine pw_iald r_12_judge_6 sh243 (by omega) (by omega) ?_
  refine pw_ishr r_12_judge_7 ?_
  refine pw_if_ne r_12_judge_8 (fun h08 => ?_) (fun h08 => ?_)
  · skip
    refine pw_const r_12_judge_22 ?_
    refine pw_iret r_12_judge_23 rfl (Nat.le_refl _) ⟨rfl, ?_⟩
    first | exact h1 (fun z => h08 (hv0.mpr z.1)) | exact h1 (fun z => h19 (hv1.mpr z.2))
  · skip
    refine pw_iload r_12_judge_11 rfl ?_
    refine pw_aload r_12_judge_12 rfl ?_
    refine pw_getR r_12_judge_13 fs_12_61 (by decide) ?_
    refine pw_const r_12_judge_16 ?_
    refine pw_iald r_12_judge_17 sh243 (by omega) (by omega) ?_
    refine pw_ishr r_12_judge_18 ?_
    refine pw_if_eq r_12_judge_19 (fun h19 => ?_) (fun h19 => ?_)
    · skip
      refine pw_aload r_12_judge_24 rfl ?_
      refine pw_callV (av := []) (st := []) (ls0 := [some (vR 12 (0)), none, none, none, none]) r_12_judge_25 rfl rfl rfl (Nat.le_refl _) ?_
      refine sp_X12_findOffered (SD := SD) (FC := FC) (KC := KC) (ST := ST) (WT := WT) (by exact hsz) (by exact hf) (by exact hlt) (by exact hofs) (by exact hsent) (by exact hpr) (by exact htx) (by exact hTX) (by exact hSD) (by exact hFC) (by exact hKC) (by exact hcA) (by exact hsA) (hlv) (hof) (hdd) (hST) (hWT) ?_
      intro g9 hg9
      refine pw_aload r_12_judge_28 rfl ?_
      refine pw_iload r_12_judge_29 rfl ?_
      refine pw_iload r_12_judge_30 rfl ?_
      refine pw_callV (av := [vI (set0), vI (set1)]) (st := []) (ls0 := [some (vR 12 (0)), some (vI (set0)), some (vI (set1)), none, none, none, none, none, none, none, none, none]) r_12_judge_31 rfl rfl rfl (Nat.le_refl _) ?_
      refine sp_X12_fails (ST := ST) (WT := WT) (by exact hsz) (by exact hof) (by exact hlv) (by exact hwi) (by exact hsA) (by exact hc) (by exact hr) (by exact hg9) ?_
      intro q1
      refine pw_iret r_12_judge_34 rfl (Nat.le_refl _) ⟨rfl, ?_⟩
      exact h2 ⟨hv0.mp h08, hv1.mp h19⟩ g9 q1
    · skip
      refine pw_const r_12_judge_22 ?_
      refine pw_iret r_12_judge_23 rfl (Nat.le_refl _) ⟨rfl, ?_⟩
      first | exact h1 (fun z => h08 (hv0.mpr z.1)) | exact h1 (fun z => h19 (hv1.mpr z.2))
set_option maxRecDepth 10000 in
theorem sp_X12_countOf {l : Launch} {w : Wo} {d : Nat} {G : PH} {P : Option PV → PH → Prop} {a : Int} (ha : 0 ≤ a ∧ a < 128) (hP : P (some (vI (pcF a))) G) : PW l w M_X12_countOf (d + 0) 0 [some (vI (a)), none, none] [] G P := by
  refine pw_const r_12_countOf_0 ?_
  refine pw_istore (ls' := [some (vI (a)), some (vI (0)), none]) r_12_countOf_1 rfl rfl ?_
  refine pw_const r_12_countOf_2 ?_
  refine pw_istore (ls' := [some (vI (a)), some (vI (0)), some (vI (0))]) r_12_countOf_3 rfl rfl ?_
  have L4 : ∀ (nF : Nat) (i n : Int), (hi : 0 ≤ i ∧ i ≤ 31) → (hn : n = psN a i.toNat) → (hb : 0 ≤ n ∧ n ≤ i) → (31 - i).toNat < nF → PW l w M_X12_countOf (d + 0) 4 [some (vI (a)), some (vI (n)), some (vI (i))] [] G P := by
    intro nF
    induction nF with
    | zero => intro _ _ _ _ _ hM; exact absurd hM (Nat.not_lt_zero _)
    | succ nF ih4 =>
      intro i n hi hn hb hM4
      have h2 := pAnd_1 (pShr a i)
      refine pw_iload r_12_countOf_4 rfl ?_
      refine pw_const r_12_countOf_5 ?_
      refine pw_icmp_ge r_12_countOf_7 (fun h07 => ?_) (fun h07 => ?_)
      · skip
        refine pw_iload r_12_countOf_24 rfl ?_
        refine pw_iret r_12_countOf_25 rfl (Nat.le_refl _) ⟨rfl, ?_⟩
        rw [show i = 31 by omega] at hn
        exact pe hP (hn.trans (psN_31 ha))
      · skip
        refine pw_iload r_12_countOf_10 rfl ?_
        refine pw_iload r_12_countOf_11 rfl ?_
        refine pw_iload r_12_countOf_12 rfl ?_
        refine pw_ishr r_12_countOf_13 ?_
        refine pw_const r_12_countOf_14 ?_
        refine pw_iand r_12_countOf_15 ?_
        refine pw_iadd r_12_countOf_16 (by omega) ?_
        refine pw_istore (ls' := [some (vI (a)), some (vI ((n + (pAnd (pShr a i) 1)))), some (vI (i))]) r_12_countOf_17 rfl rfl ?_
        refine pw_iinc (b := 0) (ls' := [some (vI (a)), some (vI ((n + (pAnd (pShr a i) 1)))), some (vI ((i + 1)))]) r_12_countOf_18 rfl rfl (by omega) rfl ?_
        refine pw_goto r_12_countOf_21 ?_
        exact ih4 ((i + 1)) ((n + (pAnd (pShr a i) 1))) (by first | assumption | omega) (by rw [psN_s hi.1, ← hn]) (by first | assumption | omega) (by omega)
  exact L4 _ (0) (0) (by first | assumption | omega) (rfl) (by first | assumption | omega) (Nat.lt_succ_self _)
