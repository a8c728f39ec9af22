def R_law : String := "NameRollsLaw"
def lw_P (b : Addr) (xs : List Int32) (args : Array Value) (s : State) : Prop := args = #[.ref b] ∧ s.IntsAt b xs ∧ xs.length ≤ 384 ∧ (Jvm.Cond.and given_1 narrow_1).before args s = true
def lw_Q (_ : Array Value) (s : State) (o : Outcome) (t : State) : Prop := o = .returned (some (.int 1)) ∧ Framed s o t [] 600000 7302250
def lw_Z (below : List Frame) (a : Array Value) (s : State) : State → Prop := fun t => ∃ o, t.status = .running ∧ Ended t below o ∧ lw_Q a s o t
/-- the law's own end, with 1 on the stack, nothing written that was there before, its room as the claim has it -/
theorem lw_ret {p : Program} {l : Launch} {e : Env} {s : State} {m : MethodId} {below : List Frame} {meth : Method} {c : Code} {b : Nat} (hx : p.tables.exec = Jvm.exec) (hb : c.code = code) (hr : meth.sig.returnType = ret) (hlocks : meth.locks = false) {pc : Nat} {H : Heap} {ls : Array Slot} (hdg : decode code pc = .ok (.ireturn, 1)) : W p l e room_1 s m #[Value.ref b] below meth c H [] 600000 7302250 (lw_Z below #[Value.ref b] s) (F0 m pc ls [.int 1]) := by
  intro T hT X
  obtain ⟨fs, hret, hrun, hended, hW, hframe⟩ := X.leave (v := some (.int 1)) (hlocks := hlocks) (fun h => by rw [hr] at h; cases h)
  have hmeth' : T.vm.method? m = some meth := X.method'
  refine ⟨T.setFrames fs, ?_, .returned (some (.int 1)), hrun, hended, rfl, ⟨_, rfl⟩, hW, hframe⟩
  jvm_step X.here [X.here.top, hx, hb, hdg, hmeth', hr, ret, narrow_b1]
  (try refine ⟨rfl, ?_⟩); (try refine ⟨rfl, ?_⟩)
  first | (intro acts; rw [hret _ acts rfl rfl rfl]) | rw [hret _ _ rfl rfl rfl]
  exact Steps.refl _
/-- what holds at the law's entry: the machine, the code, the tables' words (any of lw_tbl by 'hts w (by decide +kernel)'), the script of L ints xs at the cell b, what the Statement gives of the start (any of its parts by flat_of_before) -/
def lw_At (p : Program) (s : State) (m : MethodId) (meth : Method) (c : Code) (b L : Nat) (xs : Nat → Int32) : Prop :=
  p.tables.exec = Jvm.exec ∧ c.code = code ∧ meth.sig.returnType = ret ∧ c.maxLocals = 4 ∧ s.vm.findClass R_law = some m.cls ∧ (∀ w ∈ lw_tbl, w.before #[Value.ref b] s = true) ∧ va_X b L xs s s.heap ∧ b < s.heap.size ∧ meth.locks = false ∧ (Jvm.Cond.and given_1 narrow_1).before #[Value.ref b] s = true
theorem pAnd_63 (a : Int) : pAnd a 63 = a % 64 := by
  unfold pAnd
  have e : (Int32.ofInt a &&& Int32.ofInt 63).toBitVec = BitVec.ofInt 32 a &&& 63#32 := rfl
  have h1 : (BitVec.ofInt 32 a &&& 63#32).toNat = (BitVec.ofInt 32 a).toNat % 64 := by
    rw [BitVec.toNat_and]
    exact Nat.and_two_pow_sub_one_eq_mod _ 6
  have h2 : (BitVec.ofInt 32 a).toNat = (a % 4294967296).toNat := BitVec.toNat_ofInt _
  show (Int32.ofInt a &&& Int32.ofInt 63).toBitVec.toInt = a % 64
  rw [e, BitVec.toInt_eq_toNat_of_lt (by omega), h1, h2]
  omega
theorem of_nI {n : Nat} (h : n < 2 ^ 31) : Int32.ofNat n = Int32.ofInt (n : Int) := Int32.toInt_inj.mp (by
  have h1 : (Int32.ofNat n).toInt = (n : Int) := nI_toInt h
  rw [h1, tI_of ⟨by omega, by omega⟩])
theorem iR_32 (x : Int32) : iR x.toInt := ⟨by have := Int32.le_toInt x; omega, by have := Int32.toInt_lt x; omega⟩
def dArgsB : Nat → List Nat → Bool
  | _, [] => true
  | pc, j :: js => decide (decode code pc = .ok (.aload_n 0, 1) ∧ decode code (pc + 1) = .ok (.iload_n 3, 1) ∧ decode code (pc + 2) = .ok (.iconst (j : Int), 1) ∧ decode code (pc + 3) = .ok (.iadd, 1) ∧ decode code (pc + 4) = .ok (.iaload, 1) ∧ j ≤ 5) && dArgsB (pc + 5) js
def opB (pc : Nat) (js : List Nat) (i1 i2 : Nat) : Bool := decide (decode code pc = .ok (.aload_n 1, 1) ∧ decode code (pc + 1 + 5 * js.length) = .ok (.invokevirtual i1, 3) ∧ decode code (pc + 4 + 5 * js.length) = .ok (.aload_n 2, 1) ∧ decode code (pc + 5 + 10 * js.length) = .ok (.invokevirtual i2, 3) ∧ decode code (pc + 8 + 10 * js.length) = .ok (.if_icmp .eq (2200 - ((pc + 8 + 10 * js.length : Nat) : Int)), 3)) && (dArgsB (pc + 1) js && dArgsB (pc + 5 + 5 * js.length) js)
def avx (xs : Nat → Int32) (i : Nat) (js : List Nat) : List PV := js.map fun j => vI (xs (i + j)).toInt
theorem avx_v (w : Wo) (xs : Nat → Int32) (i : Nat) (js : List Nat) : (avx xs i js).map (rvv w) = js.map fun j => Value.int (xs (i + j)) := by
  unfold avx
  rw [List.map_map]
  refine List.map_congr_left fun j _ => ?_
  show Value.int (Int32.ofInt (xs (i + j)).toInt) = _
  rw [Int32.ofInt_toInt]
theorem avx_J (xs : Nat → Int32) (i : Nat) : ∀ js, noJ (avx xs i js) = true
  | [] => rfl
  | _ :: js => avx_J xs i js
theorem avx_ok {np : Nat} (xs : Nat → Int32) (i : Nat) (js : List Nat) : ∀ x ∈ avx xs i js, okv np x := fun x hx => by
  obtain ⟨j, -, rfl⟩ := List.mem_map.mp hx
  exact iR_32 _
def LwI (w : Wo) (s : State) : Prop := Kw w s ∧ Ro w s s.heap ∧ w.2.2.2 = s.heap.size
theorem LwI.ext {w w' : Wo} {s : State} (h : LwI w s) (h1 : w'.2 = w.2) (hA : Agr w w') : LwI w' s :=
  ⟨h.1.ext h1 hA, h.2.1.ext h1 (fun c a b => hA.2 c 0 (Or.inr (Or.inr ⟨a, b, rfl⟩))), by rw [h1]; exact h.2.2⟩
theorem lv_11 (np : Nat) : lv np 11 0 := lv_of rw11 (Int.le_refl 0) (by decide)
theorem lv_12 (np : Nat) : lv np 12 0 := lv_of rw12 (Int.le_refl 0) (by decide)
section LAW
variable {p : Program} {l : Launch} {e : Env} {s : State} {m : MethodId} {below : List Frame} {meth : Method} {c : Code} {b L : Nat} {xs : Nat → Int32} {H : Heap} {locs : List Loc} {cells slots : Nat} {Q : State → Prop} {R : Room} {args : Array Value}
theorem w_callV {w : Wo} {M' : MI} {d K n idx pc nL ci : Nat} {r0 : Int} {av : List PV} {rest : List Value} {G : PH} {Φ : Wo → Option PV → PH → Prop} {own : String} {cc : ByteArray} {ls : Array Slot}
    (S : CallFix p m c cc nL s args UW own) (hK : Kw w s) (hR : Ro w s s.heap) (hbs : w.2.2.2 ≤ s.heap.size) (hW : Wd w G H) (hG : okG w.1.2 G) (hS : va_S (Ab w) s.heap H locs) (hsz : ls.size = nL)
    (ok : mokV M' n ci) (hsel : Cond.selects M'.1.cls M'.1 M'.1 ∈ UW) (hl : Cond.methodLink own idx M'.1 ∈ UW) (hn : av.length = n) (hj : noJ av = true) (hL : av.length + 1 ≤ M'.2.2.1) (hav : ∀ x ∈ vR ci r0 :: av, okv w.1.2 x) (hroom : Rok R d K cells slots M'.2.2.1) (hcat : (rest.map fun v => v.category).sum ≤ 8)
    (hdg : decode cc pc = .ok (.invokevirtual idx, 3)) (hb : PWg l w M' d K 0 0 (inl' M' (vR ci r0 :: av)) [] G Φ)
    (kk : ∀ (w' : Wo) (r : Option PV) (G' : PH) (H1 : Heap) (locs1 : List Loc), Φ w' r G' → w'.2 = w.2 → Wd w' G' H1 → okG w'.1.2 G' → (∀ v, r = some v → okv w'.1.2 v) → va_S (Ab w) s.heap H1 locs1 → W p l e R s m args below meth c H1 locs1 (cells + K) (slots + 12 * K) Q (F0 m (pc + 3) ls ((r.map (rvv w')).toList ++ rest))) :
    W p l e R s m args below meth c H locs cells slots Q (F0 m pc ls ((av.map (rvv w)).reverse ++ .ref (w.1.1 ci r0) :: rest)) := by
  obtain ⟨⟨hcode, hini, ⟨hd1, hd2, hd3⟩, hpl⟩, hins, q, hq, hqn⟩ := ok
  have hts := S.2.2.2.2
  have hrv := hav _ List.mem_cons_self
  have hpc := w_pcw (own := own) (cc := cc) (nL := nL) (Ts := UW) hK hR hbs hW hG hav hS
  have hM := pw_met (av := vR ci r0 :: av) hpl hj hL hb
  obtain ⟨-, -, hsh⟩ := cls_sh ci q hq
  obtain ⟨i0, -, h0⟩ := wl_at (w := w) (G := G) (cs_mem hrv (by rw [hsh]; exact Nat.zero_le _))
  rw [ent_o hsh] at h0
  have hrecv := va_recv hK.1 hW.1 hq h0
  rw [hqn] at hrecv
  exact w_after (va_runV (As := av.map (rvv w)) (rest := rest) (C := M'.1.cls) S hM (n := n) ⟨callB_of n hts (goodIn_UW (fun _ h => h) hcode) rfl rfl rfl (hts _ hini) (hts _ hl) ⟨hd1, hd2, hd3⟩ ⟨hroom.1, hroom.2.1⟩, hts _ hins, hts _ hsel⟩ ⟨Pcw_blind w G _, hrecv, hpc⟩ rfl (by rw [List.length_map]; exact hn) hsz rfl (lv_room hcat) hdg hroom.2.2) hS kk
theorem wb_after {A A' : Nat → Prop} {F : Heap → Prop} {a : Array Value} {mc ms pc : Nat} {ls : Array Slot} {st0 rest : List Value} (hr : va_Run p l e R s m args below meth c H locs cells slots mc ms (F0 m pc ls st0) rest (QcB A' F a) A') (hS : va_S A s.heap H locs) (hsub : ∀ q, A' q → A q)
    (kk : ∀ (H1 : Heap) (locs1 : List Loc), F H1 → H.size ≤ H1.size → (∀ q : Nat, q < H.size → ¬ A' q → H1[q]? = H[q]?) → va_S A s.heap H1 locs1 → W p l e R s m args below meth c H1 locs1 (cells + mc) (slots + ms) Q (F0 m (pc + 3) ls rest)) : W p l e R s m args below meth c H locs cells slots Q (F0 m pc ls st0) := by
  intro T hT X
  obtain ⟨v, st₀, t, T', L, h0, X', hLf, f1, f2, ⟨⟨hv, hF⟩, hz, hk⟩, sg⟩ := hr T hT X
  cases hv
  rw [h0] at hz hk
  rw [← f1] at hF hz hk
  obtain ⟨t2, a1, b1⟩ := kk T'.heap (locs ++ L) hF hz hk ⟨Nat.le_trans hS.1 hz, fun q h1 h2 => (hk q (Nat.lt_of_lt_of_le h1 hS.1) fun h3 => h2 (hsub q h3)).trans (hS.2.1 q h1 h2), fun x hx => by
    rcases List.mem_append.mp hx with h | h
    · exact hS.2.2 x h
    · exact hsub _ (hLf x h)⟩ T' rfl X'
  exact ⟨t2, sg t2 a1, b1⟩
theorem law_args {A : Nat → Prop} {i : Nat} {ls : Array Slot} (C0 : lw_At p s m meth c b L xs) (hbA : ¬ A b) (hS : va_S A s.heap H locs) (hL : L ≤ 384) (hi : i + 6 ≤ L) (hl0 : ls[0]? = some (.val (.ref b))) (hl3 : ls[3]? = some (.val (.int (Int32.ofInt (i : Int))))) :
    ∀ (js : List Nat) (pc : Nat) (rest : List Value), dArgsB pc js = true → W p l e R s m #[Value.ref b] below meth c H locs cells slots Q (F0 m (pc + 5 * js.length) ls ((js.map fun j => Value.int (xs (i + j))).reverse ++ rest)) → W p l e R s m #[Value.ref b] below meth c H locs cells slots Q (F0 m pc ls rest) := by
  intro js
  induction js with
  | nil => intro pc rest _ h; exact h
  | cons j js ih =>
    intro pc rest hd h
    unfold dArgsB at hd
    simp only [Bool.and_eq_true, decide_eq_true_eq] at hd
    obtain ⟨⟨d0, d1, d2, d3, d4, hj⟩, hd⟩ := hd
    obtain ⟨hx, hb, hr, hml, hown, hts, hX, hbl, hlocks, hgv⟩ := id C0
    refine lv_aload_n hx hb d0 rfl hl0 (lv_iload_n hx hb d1 rfl hl3 (lv_iconst (v := Int32.ofInt (j : Int)) hx hb d2 rfl (lv_iadd hx hb d3 ?_)))
    rw [← Int32.ofInt_add]
    obtain ⟨g1, g2⟩ := of_in (i := (i : Int) + (j : Int)) (n := L) (by omega) (by omega) (by omega)
    refine va_sld hx hb hX hbl hbA hS g1 d4 ?_
    rw [g2, show ((i : Int) + (j : Int)).toNat = i + j by omega]
    refine ih (pc + 5) _ hd ?_
    have e1 : pc + 5 + 5 * js.length = pc + 5 * (j :: js).length := by simp only [List.length_cons]; omega
    have e2 : (js.map fun j => Value.int (xs (i + j))).reverse ++ (Value.int (xs (i + j)) :: rest) = ((j :: js).map fun j => Value.int (xs (i + j))).reverse ++ rest := by simp
    rw [e1, e2]
    exact h
theorem rok_law {K mL : Nat} (hm : mL ≤ 29) (h : cells + K ≤ 600000 ∧ slots + 12 * K ≤ 7302250) : Rok room_1 1000 K cells slots mL := ⟨Nat.le_of_ble_eq_true rfl, by show _ ≤ 84000; omega, h⟩
theorem cat_opt (w : Wo) (r : Option PV) : (((r.map (rvv w)).toList ++ []).map fun v : Value => v.category).sum ≤ 8 := by
  cases r with
  | none => exact Nat.zero_le _
  | some v =>
    show (rvv w v).category + 0 ≤ 8
    rcases v with n | (_ | q) | n <;> exact Nat.le_of_ble_eq_true rfl
theorem law_op {w : Wo} {G : PH} {i : Nat} {ls : Array Slot} {js : List Nat} {pc i1 i2 K1 : Nat} {M1 M2 : MI} {Φ : Wo → Option PV → PH → Prop} (C0 : lw_At p s m meth c b L xs) (hw : LwI w s) (hWd : Wd w G H) (hG : okG w.1.2 G) (hS : va_S (Ab w) s.heap H locs)
    (hl : lv_has ls 4 [(3, .int (Int32.ofInt (i : Int))), (2, .ref (w.1.1 12 0)), (1, .ref (w.1.1 11 0)), (0, .ref b)]) (hL : L ≤ 384) (hi : i + 6 ≤ L) (hop : opB pc js i1 i2 = true)
    (h1 : mokV M1 js.length 11) (s1 : Cond.selects M1.1.cls M1.1 M1.1 ∈ UW) (k1 : Cond.methodLink R_law i1 M1.1 ∈ UW) (h2 : mokV M2 js.length 12) (s2 : Cond.selects M2.1.cls M2.1 M2.1 ∈ UW) (k2 : Cond.methodLink R_law i2 M2.1 ∈ UW) (m1 : js.length + 1 ≤ M1.2.2.1 ∧ M1.2.2.1 ≤ 29) (m2 : js.length + 1 ≤ M2.2.2.1 ∧ M2.2.2.1 ≤ 29) (hroom : cells + K1 ≤ 600000 ∧ slots + 12 * K1 ≤ 7302250)
    (hb1 : PWg l w M1 1000 K1 0 0 (inl' M1 (vR 11 0 :: avx xs i js)) [] G Φ) (hΦ : ∀ w1 r G1, Φ w1 r G1 → Agr w w1 ∧ PW l w1 M2 1000 0 (inl' M2 (vR 12 0 :: avx xs i js)) [] G1 (fun r2 G2 => (r2 = r ∧ ∃ v, r = some (vI v)) ∧ Inv w1.1.2 G2 G2))
    (kk : ∀ (w2 : Wo) (G2 : PH) (H2 : Heap) (locs2 : List Loc), Agr w w2 → w2.2 = w.2 → Wd w2 G2 H2 → okG w2.1.2 G2 → Inv w2.1.2 G2 G2 → va_S (Ab w) s.heap H2 locs2 → W p l e room_1 s m #[Value.ref b] below meth c H2 locs2 (cells + K1) (slots + 12 * K1) Q (F0 m 2200 ls [])) :
    W p l e room_1 s m #[Value.ref b] below meth c H locs cells slots Q (F0 m pc ls []) := by
  obtain ⟨hx, hb, hr, hml, hown, hts, hX, hbl, hlocks, hgv⟩ := id C0
  have hU : ∀ x ∈ UW, x.before #[Value.ref b] s = true := fun x hx => hts x (List.mem_filter.mp hx).1
  have S : CallFix p m c code 4 s #[Value.ref b] UW R_law := ⟨hx, hb, hml, hown, hU⟩
  unfold opB at hop
  simp only [Bool.and_eq_true, decide_eq_true_eq] at hop
  obtain ⟨⟨d0, d1, d2, d3, d4⟩, dA, dB⟩ := hop
  have hbA : ¬ Ab w b := fun h => by
    have h : w.2.2.2 ≤ b := h
    have := hw.2.2
    omega
  have hlen : (avx xs i js).length = js.length := by unfold avx; rw [List.length_map]
  refine lv_aload_n hx hb d0 rfl (lv_at hl 2 rfl) ?_
  refine law_args C0 hbA hS hL hi (lv_at hl 3 rfl) (lv_at hl 0 rfl) js (pc + 1) _ dA ?_
  rw [← avx_v w xs i js]
  refine w_callV (r0 := 0) (rest := []) S hw.1 hw.2.1 (Nat.le_of_eq hw.2.2) hWd hG hS hl.1 h1 s1 k1 hlen (avx_J xs i js) (by rw [hlen]; exact m1.1) (fun x hx => ?_) (rok_law m1.2 hroom) (Nat.zero_le _) d1 hb1 fun w1 r G1 H1 locs1 hΦ1 hw1 hWd1 hG1 hr1 hS1 => ?_
  · rcases List.mem_cons.mp hx with rfl | hx
    · exact lv_11 _
    · exact avx_ok xs i js x hx
  obtain ⟨hA1, hb2⟩ := hΦ w1 r G1 hΦ1
  have hAb : Ab w1 = Ab w := by unfold Ab; rw [hw1]
  have hwi := hw.ext hw1 hA1
  rw [show pc + 1 + 5 * js.length + 3 = pc + 4 + 5 * js.length by omega]
  refine lv_aload_n hx hb d2 rfl (lv_at hl 1 rfl) ?_
  rw [show pc + 4 + 5 * js.length + 1 = pc + 5 + 5 * js.length by omega]
  refine law_args C0 hbA hS1 hL hi (lv_at hl 3 rfl) (lv_at hl 0 rfl) js (pc + 5 + 5 * js.length) _ dB ?_
  rw [← avx_v w1 xs i js, ← hA1.2 12 0 (lv_12 _), show pc + 5 + 5 * js.length + 5 * js.length = pc + 5 + 10 * js.length by omega]
  refine w_callV (K := 0) (r0 := 0) (rest := (r.map (rvv w1)).toList ++ []) S hwi.1 hwi.2.1 (Nat.le_of_eq hwi.2.2) hWd1 hG1 (by rw [hAb]; exact hS1) hl.1 h2 s2 k2 hlen (avx_J xs i js) (by rw [hlen]; exact m2.1) (fun x hx => ?_) (rok_law m2.2 ⟨hroom.1, hroom.2⟩) (cat_opt w1 r) d3 hb2 fun w2 r2 G2 H2 locs2 hΦ2 hw2 hWd2 hG2 hr2 hS2 => ?_
  · rcases List.mem_cons.mp hx with rfl | hx
    · exact lv_12 _
    · exact avx_ok xs i js x hx
  obtain ⟨rfl, ⟨rfl, v, rfl⟩, hI⟩ := hΦ2
  rw [show pc + 5 + 10 * js.length + 3 = pc + 8 + 10 * js.length by omega]
  refine lv_icmp_eq hx hb d4 (tgt := 2200) (by omega) (fun _ => ?_) (fun h => absurd rfl h)
  exact kk w2 G2 H2 locs2 hA1 hw1 hWd2 hG2 hI (by rw [← hAb]; exact hS2)
end LAW
