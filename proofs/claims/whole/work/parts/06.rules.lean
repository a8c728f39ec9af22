/-! Rules: an instruction each. -/
theorem ofInt_wr (n : Int) : Int32.ofInt (wr n) = Int32.ofInt n := by
  apply Int32.toInt_inj.mp
  rw [Int32.toInt_ofInt, Int32.toInt_ofInt]
  unfold wr
  exact Int.bmod_bmod
theorem tI_of {n : Int} (h : iR n) : (Int32.ofInt n).toInt = n := by
  rw [Int32.toInt_ofInt]
  have h1 := h.1
  have h2 := h.2
  have e : (Int32.size : Int) = 4294967296 := rfl
  exact Int.bmod_eq_of_le (by rw [e]; omega) (by rw [e]; omega)
theorem iR_toInt (v : Int32) : iR v.toInt := ⟨by have := Int32.le_toInt v; omega, by have := Int32.toInt_lt v; omega⟩
theorem of_lt {a b : Int} (ha : iR a) (hb : iR b) : Int32.ofInt a < Int32.ofInt b ↔ a < b := by rw [Int32.lt_iff_toInt_lt, tI_of ha, tI_of hb]
theorem of_le {a b : Int} (ha : iR a) (hb : iR b) : Int32.ofInt a ≤ Int32.ofInt b ↔ a ≤ b := by rw [Int32.le_iff_toInt_le, tI_of ha, tI_of hb]
theorem of_eq {a b : Int} (ha : iR a) (hb : iR b) : Int32.ofInt a = Int32.ofInt b ↔ a = b := by rw [← Int32.toInt_inj, tI_of ha, tI_of hb]
theorem iR_0 : iR 0 := ⟨by decide, by decide⟩
theorem of_nat (j : Nat) : Int32.ofInt (j : Int) = nI j := rfl
theorem of_in {i : Int} {n : Nat} (h0 : 0 ≤ i) (h1 : i < n) (hn : n < 2 ^ 31) : vp_in (Int32.ofInt i) n ∧ (Int32.ofInt i).toNatClampNeg = i.toNat := by
  obtain ⟨j, rfl⟩ : ∃ j : Nat, i = j := ⟨i.toNat, by omega⟩
  rw [of_nat]
  exact ⟨vp_in_nI (by omega) hn, by rw [nI_clamp (by omega)]; rfl⟩
/-- an instruction, the next place -/
def RW (M : MI) (pc : Nat) (i : Instr) (pc' n : Nat) : Prop := decode M.2.1 pc = .ok (i, n) ∧ pc + n = pc'
def RB (M : MI) (pc : Nat) (f : Int → Instr) (tgt pc' : Nat) : Prop := ∃ off : Int, decode M.2.1 pc = .ok (f off, 3) ∧ (pc : Int) + off = (tgt : Int) ∧ pc + 3 = pc'
def RC (M : MI) (pc : Nat) (n : Int) (pc' : Nat) : Prop := iR n ∧ ((decode M.2.1 pc = .ok (.iconst n, 1) ∧ pc + 1 = pc') ∨ (decode M.2.1 pc = .ok (.bipush n, 2) ∧ (Int8.ofInt n).toInt32 = Int32.ofInt n ∧ pc + 2 = pc') ∨ (decode M.2.1 pc = .ok (.sipush n, 3) ∧ (Int16.ofInt n).toInt32 = Int32.ofInt n ∧ pc + 3 = pc') ∨ (∃ idx : Nat, decode M.2.1 pc = .ok (.ldc idx, 2) ∧ Cond.constant M.1.cls idx (Int32.ofInt n) ∈ UW ∧ pc + 2 = pc') ∨ (∃ idx : Nat, decode M.2.1 pc = .ok (.ldc_w idx, 3) ∧ Cond.constant M.1.cls idx (Int32.ofInt n) ∈ UW ∧ pc + 3 = pc'))
def RL (M : MI) (pc i pc' : Nat) : Prop := (∃ k : Fin 4, decode M.2.1 pc = .ok (.iload_n k, 1) ∧ (k : Nat) = i ∧ pc + 1 = pc') ∨ (decode M.2.1 pc = .ok (.iload i, 2) ∧ pc + 2 = pc')
def RA (M : MI) (pc i pc' : Nat) : Prop := (∃ k : Fin 4, decode M.2.1 pc = .ok (.aload_n k, 1) ∧ (k : Nat) = i ∧ pc + 1 = pc') ∨ (decode M.2.1 pc = .ok (.aload i, 2) ∧ pc + 2 = pc')
def RS (M : MI) (pc i pc' : Nat) : Prop := i < M.2.2.1 ∧ ((∃ k : Fin 4, decode M.2.1 pc = .ok (.istore_n k, 1) ∧ (k : Nat) = i ∧ pc + 1 = pc') ∨ (decode M.2.1 pc = .ok (.istore i, 2) ∧ pc + 2 = pc'))
def RT (M : MI) (pc i pc' : Nat) : Prop := i < M.2.2.1 ∧ ((∃ k : Fin 4, decode M.2.1 pc = .ok (.astore_n k, 1) ∧ (k : Nat) = i ∧ pc + 1 = pc') ∨ (decode M.2.1 pc = .ok (.astore i, 2) ∧ pc + 2 = pc'))
def RI (M : MI) (pc i : Nat) (n : Int) (pc' : Nat) : Prop := i < M.2.2.1 ∧ decode M.2.1 pc = .ok (.iinc i n, 3) ∧ pc + 3 = pc'
def jOK (ls : List (Option PV)) (i : Nat) : Bool := match i with
  | 0 => true
  | j + 1 => match ls[j]? with
    | some (some (.inr (.inr _))) => false
    | _ => true
def prs (w : Wo) (pls : List (Option PV)) : List (Nat × Value) := (List.range pls.length).filterMap fun i => match pls[i]? with
  | some (some v) => some (i, rvv w v)
  | _ => none
theorem prs_mem {w : Wo} {pls : List (Option PV)} {q : Nat × Value} : q ∈ prs w pls ↔ ∃ v, pls[q.1]? = some (some v) ∧ q.2 = rvv w v := by
  unfold prs
  rw [List.mem_filterMap]
  constructor
  · rintro ⟨i, -, h⟩
    split at h
    · next v hv => cases h; exact ⟨v, hv, rfl⟩
    · cases h
  · rintro ⟨v, hv, he⟩
    refine ⟨q.1, List.mem_range.mpr (List.getElem?_eq_some_iff.mp hv).1, ?_⟩
    rw [hv]
    show some (q.1, rvv w v) = some q
    rw [← he]
theorem Lr.has {w : Wo} {pls : List (Option PV)} {ls : Array Slot} {nL : Nat} (h : Lr w pls ls nL) : lv_has ls nL (prs w pls) := by
  refine ⟨h.1, h.2.1, fun q hq => ?_⟩
  obtain ⟨v, h1, h2⟩ := prs_mem.mp hq
  rw [h2]
  exact h.2.2 _ _ h1
theorem Lr.stored {w : Wo} {pls : List (Option PV)} {ls : Array Slot} {nL i : Nat} {v : PV} (hj : jOK pls i = true) (h : lv_has ls nL ((i, rvv w v) :: (prs w pls).filter (fun q => !(q.1 == i) && !(q.1 + 1 == i && q.2.category == 2)))) : Lr w (pls.set i (some v)) ls nL := by
  refine ⟨h.1, h.2.1, fun j u hu => ?_⟩
  by_cases hji : j = i
  · subst hji
    have hlt : j < pls.length := by
      have := (List.getElem?_eq_some_iff.mp hu).1
      rwa [List.length_set] at this
    rw [List.getElem?_set_self hlt] at hu
    cases hu
    exact h.2.2 _ List.mem_cons_self
  · rw [List.getElem?_set_ne (Ne.symm hji)] at hu
    refine h.2.2 (j, rvv w u) (List.mem_cons_of_mem _ (List.mem_filter.mpr ⟨prs_mem.mpr ⟨u, hu, rfl⟩, ?_⟩))
    have h1 : (j == i) = false := by simpa using hji
    show (!(j == i) && !(j + 1 == i && (rvv w u).category == 2)) = true
    rw [h1]
    by_cases hj1 : j + 1 = i
    · subst hj1
      have hj' : (match pls[j]? with
        | some (some (.inr (.inr _))) => false
        | _ => true) = true := hj
      rw [hu] at hj'
      rcases u with n | (_ | q) | n
      · simp [rvv, Value.category]
      · simp [rvv, Value.category]
      · simp [rvv, Value.category]
      · exact absurd hj' (by simp)
    · have h2 : (j + 1 == i) = false := by simpa using hj1
      rw [h2]; rfl
theorem memC {np : Nat} {u : PV} {st : List PV} (hu : okv np u) (h : ∀ v ∈ st, okv np v) : ∀ v ∈ u :: st, okv np v := fun v hv => by
  rcases List.mem_cons.mp hv with rfl | hv
  · exact hu
  · exact h v hv
theorem memS {np i : Nat} {u : PV} {ls : List (Option PV)} (hu : okv np u) (h : ∀ v, some v ∈ ls → okv np v) : ∀ v, some v ∈ ls.set i (some u) → okv np v := fun v hv => by
  rcases List.mem_or_eq_of_mem_set hv with hv | hv
  · exact h v hv
  · cases hv; exact hu
theorem set_in {α : Type} {ls : List (Option α)} {i : Nat} {v u : α} (h : some u ∈ ls.set i (some v)) : u = v ∨ some u ∈ ls := by
  rcases List.mem_or_eq_of_mem_set h with h | h
  · exact Or.inr h
  · exact Or.inl (Option.some.inj h)
section RULES
variable {l : Launch} {w : Wo} {M : MI} {d K k pc pc' : Nat} {ls : List (Option PV)} {st : List PV} {G : PH} {Φ : Wo → Option PV → PH → Prop}
theorem pw_const {n : Int} (hd : RC M pc n pc') (K0 : PWg l w M d K k pc' ls (vI n :: st) G Φ) : PWg l w M d K k pc ls st G Φ := by
  intro p e s m args below meth c H locs lsr hC hW hO hS hL
  obtain ⟨hn, hd⟩ := hd
  have h := K0 p e s m args below meth c H locs lsr hC hW ⟨hO.1, memC (hn) hO.2.1, hO.2.2⟩ hS hL
  rcases hd with ⟨hd, rfl⟩ | ⟨hd, hv, rfl⟩ | ⟨hd, hv, rfl⟩ | ⟨idx, hd, hw, rfl⟩ | ⟨idx, hd, hw, rfl⟩
  · exact lv_iconst (v := Int32.ofInt n) hC.1 hC.2.1 hd rfl h
  · exact lv_bipush hC.1 hC.2.1 hd hv h
  · exact lv_sipush hC.1 hC.2.1 hd hv h
  · exact lv_ldc hC.1 hC.2.1 hC.2.2.2.2.1 (hC.2.2.2.2.2.1 _ hw) hd h
  · exact lv_ldcw hC.1 hC.2.1 hC.2.2.2.2.1 (hC.2.2.2.2.2.1 _ hw) hd h
theorem pw_iload {i : Nat} {a : Int} (hd : RL M pc i pc') (hl : ls[i]? = some (some (vI a))) (K0 : PWg l w M d K k pc' ls (vI a :: st) G Φ) : PWg l w M d K k pc ls st G Φ := by
  intro p e s m args below meth c H locs lsr hC hW hO hS hL
  have h := K0 p e s m args below meth c H locs lsr hC hW ⟨hO.1, memC (hO.2.2 _ (List.mem_of_getElem? hl)) hO.2.1, hO.2.2⟩ hS hL
  rcases hd with ⟨k', hd, hk, rfl⟩ | ⟨hd, rfl⟩
  · exact lv_iload_n hC.1 hC.2.1 hd hk (hL.2.2 _ _ hl) h
  · exact lv_iload hC.1 hC.2.1 hd (hL.2.2 _ _ hl) h
theorem pw_aload {i : Nat} {q : Option PR} (hd : RA M pc i pc') (hl : ls[i]? = some (some (vQ q))) (K0 : PWg l w M d K k pc' ls (vQ q :: st) G Φ) : PWg l w M d K k pc ls st G Φ := by
  intro p e s m args below meth c H locs lsr hC hW hO hS hL
  have h := K0 p e s m args below meth c H locs lsr hC hW ⟨hO.1, memC (hO.2.2 _ (List.mem_of_getElem? hl)) hO.2.1, hO.2.2⟩ hS hL
  have hv := hL.2.2 _ _ hl
  cases q with
  | none =>
    rcases hd with ⟨k', hd, hk, rfl⟩ | ⟨hd, rfl⟩
    · exact lv_aload_nN hC.1 hC.2.1 hd hk hv h
    · exact lv_aloadN hC.1 hC.2.1 hd hv h
  | some q =>
    rcases hd with ⟨k', hd, hk, rfl⟩ | ⟨hd, rfl⟩
    · exact lv_aload_n hC.1 hC.2.1 hd hk hv h
    · exact lv_aload hC.1 hC.2.1 hd hv h
theorem pw_istore {i : Nat} {a : Int} {ls' : List (Option PV)} (hd : RS M pc i pc') (hj : jOK ls i = true) (hl : ls.set i (some (vI a)) = ls') (K0 : PWg l w M d K k pc' ls' st G Φ) : PWg l w M d K k pc ls (vI a :: st) G Φ := by
  subst hl
  intro p e s m args below meth c H locs lsr hC hW hO hS hL
  obtain ⟨hi, hd⟩ := hd
  have h := fun (lsr' : Array Slot) (hL' : lv_has lsr' M.2.2.1 ((i, rvv w (vI a)) :: (prs w ls).filter (fun q => !(q.1 == i) && !(q.1 + 1 == i && q.2.category == 2)))) => K0 p e s m args below meth c H locs lsr' hC hW ⟨hO.1, fun v hv => hO.2.1 v (List.mem_cons_of_mem _ hv), memS (hO.2.1 _ List.mem_cons_self) hO.2.2⟩ hS (Lr.stored hj hL')
  rcases hd with ⟨k', hd, hk, rfl⟩ | ⟨hd, rfl⟩
  · exact lv_istore_n hC.1 hC.2.1 hd hk hL.has hi rfl h
  · exact lv_istore hC.1 hC.2.1 hd hL.has hi rfl h
theorem pw_astore {i : Nat} {q : Option PR} {ls' : List (Option PV)} (hd : RT M pc i pc') (hj : jOK ls i = true) (hl : ls.set i (some (vQ q)) = ls') (K0 : PWg l w M d K k pc' ls' st G Φ) : PWg l w M d K k pc ls (vQ q :: st) G Φ := by
  subst hl
  intro p e s m args below meth c H locs lsr hC hW hO hS hL
  obtain ⟨hi, hd⟩ := hd
  have h := fun (lsr' : Array Slot) (hL' : lv_has lsr' M.2.2.1 ((i, rvv w (vQ q)) :: (prs w ls).filter (fun q => !(q.1 == i) && !(q.1 + 1 == i && q.2.category == 2)))) => K0 p e s m args below meth c H locs lsr' hC hW ⟨hO.1, fun v hv => hO.2.1 v (List.mem_cons_of_mem _ hv), memS (hO.2.1 _ List.mem_cons_self) hO.2.2⟩ hS (Lr.stored hj hL')
  cases q with
  | none =>
    rcases hd with ⟨k', hd, hk, rfl⟩ | ⟨hd, rfl⟩
    · exact lv_astore_nN hC.1 hC.2.1 hd hk hL.has hi rfl h
    · exact lv_astoreN hC.1 hC.2.1 hd hL.has hi rfl h
  | some q =>
    rcases hd with ⟨k', hd, hk, rfl⟩ | ⟨hd, rfl⟩
    · exact lv_astore_n hC.1 hC.2.1 hd hk hL.has hi rfl h
    · exact lv_astore hC.1 hC.2.1 hd hL.has hi rfl h
theorem pw_iinc {i : Nat} {a n b : Int} {ls' : List (Option PV)} (hd : RI M pc i n pc') (hj : jOK ls i = true) (ha : ls[i]? = some (some (vI a))) (hb : -2147483648 ≤ a + n ∧ a + n < 2147483648) (hl : ls.set i (some (vI (a + n))) = ls') (K0 : PWg l w M d K k pc' ls' st G Φ) : PWg l w M d K k pc ls st G Φ := by
  subst hl
  intro p e s m args below meth c H locs lsr hC hW hO hS hL
  obtain ⟨hi, hd, rfl⟩ := hd
  have hm : (i, rvv w (vI a)) ∈ prs w ls := prs_mem.mpr ⟨_, ha, rfl⟩
  obtain ⟨k0, hk0⟩ := List.getElem?_of_mem hm
  exact lv_iinc (v := Int32.ofInt (a + n)) hC.1 hC.2.1 hd hL.has hk0 (by rw [Int32.ofInt_add]) hi rfl fun lsr' hL' => K0 p e s m args below meth c H locs lsr' hC hW ⟨hO.1, hO.2.1, memS (hb) hO.2.2⟩ hS (Lr.stored hj hL')
theorem mem2 {np : Nat} {u a b : PV} (hu : okv np u) (h : ∀ v ∈ a :: b :: st, okv np v) : ∀ v ∈ u :: st, okv np v := fun v hv => by
  rcases List.mem_cons.mp hv with rfl | hv
  · exact hu
  · exact h v (List.mem_cons_of_mem _ (List.mem_cons_of_mem _ hv))
theorem mem1 {np : Nat} {u a : PV} (hu : okv np u) (h : ∀ v ∈ a :: st, okv np v) : ∀ v ∈ u :: st, okv np v := fun v hv => by
  rcases List.mem_cons.mp hv with rfl | hv
  · exact hu
  · exact h v (List.mem_cons_of_mem _ hv)

theorem pw_iaddW {a b : Int} (hd : RW M pc .iadd pc' 1) (K0 : PWg l w M d K k pc' ls (vI (wr (a + b)) :: st) G Φ) : PWg l w M d K k pc ls (vI b :: vI a :: st) G Φ := by
  obtain ⟨hd, rfl⟩ := hd
  intro p e s m args below meth c H locs lsr hC hW hO hS hL
  have hb : iR b := hO.2.1 _ List.mem_cons_self
  have ha : iR a := hO.2.1 _ (List.mem_cons_of_mem _ List.mem_cons_self)
  have h := K0 p e s m args below meth c H locs lsr hC hW ⟨hO.1, mem2 (wr_in _) hO.2.1, hO.2.2⟩ hS hL
  refine lv_iadd hC.1 hC.2.1 hd ?_
  have e1 : Int32.ofInt a + Int32.ofInt b = Int32.ofInt (wr (a + b)) := by rw [ofInt_wr, Int32.ofInt_add]
  rw [e1]
  exact h
theorem pw_iadd {a b : Int} (hd : RW M pc .iadd pc' 1) (hr : -2147483648 ≤ a + b ∧ a + b < 2147483648) (K0 : PWg l w M d K k pc' ls (vI (a + b) :: st) G Φ) : PWg l w M d K k pc ls (vI b :: vI a :: st) G Φ :=
  pw_iaddW hd (by rw [wr_id hr]; exact K0)
theorem pw_isubW {a b : Int} (hd : RW M pc .isub pc' 1) (K0 : PWg l w M d K k pc' ls (vI (wr (a - b)) :: st) G Φ) : PWg l w M d K k pc ls (vI b :: vI a :: st) G Φ := by
  obtain ⟨hd, rfl⟩ := hd
  intro p e s m args below meth c H locs lsr hC hW hO hS hL
  have hb : iR b := hO.2.1 _ List.mem_cons_self
  have ha : iR a := hO.2.1 _ (List.mem_cons_of_mem _ List.mem_cons_self)
  have h := K0 p e s m args below meth c H locs lsr hC hW ⟨hO.1, mem2 (wr_in _) hO.2.1, hO.2.2⟩ hS hL
  refine lv_isub hC.1 hC.2.1 hd ?_
  have e1 : Int32.ofInt a - Int32.ofInt b = Int32.ofInt (wr (a - b)) := by rw [ofInt_wr, Int32.ofInt_sub]
  rw [e1]
  exact h
theorem pw_isub {a b : Int} (hd : RW M pc .isub pc' 1) (hr : -2147483648 ≤ a - b ∧ a - b < 2147483648) (K0 : PWg l w M d K k pc' ls (vI (a - b) :: st) G Φ) : PWg l w M d K k pc ls (vI b :: vI a :: st) G Φ :=
  pw_isubW hd (by rw [wr_id hr]; exact K0)
theorem pw_imulW {a b : Int} (hd : RW M pc .imul pc' 1) (K0 : PWg l w M d K k pc' ls (vI (wr (a * b)) :: st) G Φ) : PWg l w M d K k pc ls (vI b :: vI a :: st) G Φ := by
  obtain ⟨hd, rfl⟩ := hd
  intro p e s m args below meth c H locs lsr hC hW hO hS hL
  have hb : iR b := hO.2.1 _ List.mem_cons_self
  have ha : iR a := hO.2.1 _ (List.mem_cons_of_mem _ List.mem_cons_self)
  have h := K0 p e s m args below meth c H locs lsr hC hW ⟨hO.1, mem2 (wr_in _) hO.2.1, hO.2.2⟩ hS hL
  refine lv_imul hC.1 hC.2.1 hd ?_
  have e1 : Int32.ofInt a * Int32.ofInt b = Int32.ofInt (wr (a * b)) := by rw [ofInt_wr, Int32.ofInt_mul]
  rw [e1]
  exact h
theorem pw_imul {a b : Int} (hd : RW M pc .imul pc' 1) (hr : -2147483648 ≤ a * b ∧ a * b < 2147483648) (K0 : PWg l w M d K k pc' ls (vI (a * b) :: st) G Φ) : PWg l w M d K k pc ls (vI b :: vI a :: st) G Φ :=
  pw_imulW hd (by rw [wr_id hr]; exact K0)
def pAnd (a b : Int) : Int := (Int32.ofInt a &&& Int32.ofInt b).toInt
theorem pw_iand {a b : Int} (hd : RW M pc .iand pc' 1) (K0 : PWg l w M d K k pc' ls (vI (pAnd a b) :: st) G Φ) : PWg l w M d K k pc ls (vI b :: vI a :: st) G Φ := by
  obtain ⟨hd, rfl⟩ := hd
  intro p e s m args below meth c H locs lsr hC hW hO hS hL
  have hb : iR b := hO.2.1 _ List.mem_cons_self
  have ha : iR a := hO.2.1 _ (List.mem_cons_of_mem _ List.mem_cons_self)
  have h := K0 p e s m args below meth c H locs lsr hC hW ⟨hO.1, mem2 (iR_toInt _) hO.2.1, hO.2.2⟩ hS hL
  refine lv_iand hC.1 hC.2.1 hd ?_
  have e1 : Int32.ofInt a &&& Int32.ofInt b = Int32.ofInt (pAnd a b) := by unfold pAnd; rw [Int32.ofInt_toInt]
  rw [e1]
  exact h
def pOr (a b : Int) : Int := (Int32.ofInt a ||| Int32.ofInt b).toInt
theorem pw_ior {a b : Int} (hd : RW M pc .ior pc' 1) (K0 : PWg l w M d K k pc' ls (vI (pOr a b) :: st) G Φ) : PWg l w M d K k pc ls (vI b :: vI a :: st) G Φ := by
  obtain ⟨hd, rfl⟩ := hd
  intro p e s m args below meth c H locs lsr hC hW hO hS hL
  have hb : iR b := hO.2.1 _ List.mem_cons_self
  have ha : iR a := hO.2.1 _ (List.mem_cons_of_mem _ List.mem_cons_self)
  have h := K0 p e s m args below meth c H locs lsr hC hW ⟨hO.1, mem2 (iR_toInt _) hO.2.1, hO.2.2⟩ hS hL
  refine lv_ior hC.1 hC.2.1 hd ?_
  have e1 : Int32.ofInt a ||| Int32.ofInt b = Int32.ofInt (pOr a b) := by unfold pOr; rw [Int32.ofInt_toInt]
  rw [e1]
  exact h
def pXor (a b : Int) : Int := (Int32.ofInt a ^^^ Int32.ofInt b).toInt
theorem pw_ixor {a b : Int} (hd : RW M pc .ixor pc' 1) (K0 : PWg l w M d K k pc' ls (vI (pXor a b) :: st) G Φ) : PWg l w M d K k pc ls (vI b :: vI a :: st) G Φ := by
  obtain ⟨hd, rfl⟩ := hd
  intro p e s m args below meth c H locs lsr hC hW hO hS hL
  have hb : iR b := hO.2.1 _ List.mem_cons_self
  have ha : iR a := hO.2.1 _ (List.mem_cons_of_mem _ List.mem_cons_self)
  have h := K0 p e s m args below meth c H locs lsr hC hW ⟨hO.1, mem2 (iR_toInt _) hO.2.1, hO.2.2⟩ hS hL
  refine lv_ixor hC.1 hC.2.1 hd ?_
  have e1 : Int32.ofInt a ^^^ Int32.ofInt b = Int32.ofInt (pXor a b) := by unfold pXor; rw [Int32.ofInt_toInt]
  rw [e1]
  exact h
def pShl (a b : Int) : Int := (Int32.ofInt a <<< (Int32.ofInt b &&& 31)).toInt
theorem pw_ishl {a b : Int} (hd : RW M pc .ishl pc' 1) (K0 : PWg l w M d K k pc' ls (vI (pShl a b) :: st) G Φ) : PWg l w M d K k pc ls (vI b :: vI a :: st) G Φ := by
  obtain ⟨hd, rfl⟩ := hd
  intro p e s m args below meth c H locs lsr hC hW hO hS hL
  have hb : iR b := hO.2.1 _ List.mem_cons_self
  have ha : iR a := hO.2.1 _ (List.mem_cons_of_mem _ List.mem_cons_self)
  have h := K0 p e s m args below meth c H locs lsr hC hW ⟨hO.1, mem2 (iR_toInt _) hO.2.1, hO.2.2⟩ hS hL
  refine lv_ishl hC.1 hC.2.1 hd ?_
  have e1 : Int32.ofInt a <<< (Int32.ofInt b &&& 31) = Int32.ofInt (pShl a b) := by unfold pShl; rw [Int32.ofInt_toInt]
  rw [e1]
  exact h
def pShr (a b : Int) : Int := (Int32.ofInt a >>> (Int32.ofInt b &&& 31)).toInt
theorem pw_ishr {a b : Int} (hd : RW M pc .ishr pc' 1) (K0 : PWg l w M d K k pc' ls (vI (pShr a b) :: st) G Φ) : PWg l w M d K k pc ls (vI b :: vI a :: st) G Φ := by
  obtain ⟨hd, rfl⟩ := hd
  intro p e s m args below meth c H locs lsr hC hW hO hS hL
  have hb : iR b := hO.2.1 _ List.mem_cons_self
  have ha : iR a := hO.2.1 _ (List.mem_cons_of_mem _ List.mem_cons_self)
  have h := K0 p e s m args below meth c H locs lsr hC hW ⟨hO.1, mem2 (iR_toInt _) hO.2.1, hO.2.2⟩ hS hL
  refine lv_ishr hC.1 hC.2.1 hd ?_
  have e1 : Int32.ofInt a >>> (Int32.ofInt b &&& 31) = Int32.ofInt (pShr a b) := by unfold pShr; rw [Int32.ofInt_toInt]
  rw [e1]
  exact h
def pUshr (a b : Int) : Int := ((Int32.ofInt a).toUInt32 >>> ((Int32.ofInt b).toUInt32 &&& Int32.toUInt32 31)).toInt32.toInt
theorem pw_iushr {a b : Int} (hd : RW M pc .iushr pc' 1) (K0 : PWg l w M d K k pc' ls (vI (pUshr a b) :: st) G Φ) : PWg l w M d K k pc ls (vI b :: vI a :: st) G Φ := by
  obtain ⟨hd, rfl⟩ := hd
  intro p e s m args below meth c H locs lsr hC hW hO hS hL
  have hb : iR b := hO.2.1 _ List.mem_cons_self
  have ha : iR a := hO.2.1 _ (List.mem_cons_of_mem _ List.mem_cons_self)
  have h := K0 p e s m args below meth c H locs lsr hC hW ⟨hO.1, mem2 (iR_toInt _) hO.2.1, hO.2.2⟩ hS hL
  refine lv_iushr hC.1 hC.2.1 hd (v := Int32.ofInt (pUshr a b)) (by unfold pUshr; rw [Int32.ofInt_toInt]) ?_
  have e1 : Int32.ofInt (pUshr a b) = Int32.ofInt (pUshr a b) := rfl
  rw [e1]
  exact h
def pDiv (a b : Int) : Int := wr (a.tdiv b)
theorem of_div {a b : Int} (ha : iR a) (hb : iR b) : Int32.ofInt a / Int32.ofInt b = Int32.ofInt (pDiv a b) := by
  apply Int32.toInt_inj.mp
  rw [Int32.toInt_div, tI_of ha, tI_of hb]
  unfold pDiv
  rw [tI_of (wr_in _)]
  rfl
theorem of_ne0 {b : Int} (hb : iR b) (h : b ≠ 0) : ¬ Int32.ofInt b = 0 := fun q => h ((of_eq hb iR_0).mp q)
theorem pw_idiv {a b : Int} (hd : RW M pc .idiv pc' 1) (hne : b ≠ 0) (K0 : PWg l w M d K k pc' ls (vI (pDiv a b) :: st) G Φ) : PWg l w M d K k pc ls (vI b :: vI a :: st) G Φ := by
  obtain ⟨hd, rfl⟩ := hd
  intro p e s m args below meth c H locs lsr hC hW hO hS hL
  have hb : iR b := hO.2.1 _ List.mem_cons_self
  have ha : iR a := hO.2.1 _ (List.mem_cons_of_mem _ List.mem_cons_self)
  have h := K0 p e s m args below meth c H locs lsr hC hW ⟨hO.1, mem2 (wr_in _) hO.2.1, hO.2.2⟩ hS hL
  refine lv_idiv hC.1 hC.2.1 hd (of_ne0 hb hne) ?_
  have e1 : Int32.ofInt a / Int32.ofInt b = Int32.ofInt (pDiv a b) := of_div ha hb
  rw [e1]
  exact h
theorem pw_idivN {a b : Int} (hd : RW M pc .idiv pc' 1) (h0 : 0 ≤ a) (h1 : 0 < b) (hr : a < 2147483648) (K0 : PWg l w M d K k pc' ls (vI (a / b) :: st) G Φ) : PWg l w M d K k pc ls (vI b :: vI a :: st) G Φ := by
  refine pw_idiv hd (by omega) ?_
  have h2 : 0 ≤ a / b := Int.ediv_nonneg h0 (by omega)
  have h3 : a / b ≤ a := Int.ediv_le_self b h0
  have e : pDiv a b = a / b := by
    unfold pDiv
    rw [Int.tdiv_eq_ediv_of_nonneg h0, wr_id (by omega)]
  rw [e]
  exact K0
theorem of_mod {a b : Int} (ha : iR a) (hb : iR b) : Int32.ofInt a - Int32.ofInt a / Int32.ofInt b * Int32.ofInt b = Int32.ofInt (a.tmod b) := by
  rw [of_div ha hb]
  unfold pDiv
  rw [ofInt_wr, ← Int32.ofInt_mul, ← Int32.ofInt_sub]
  congr 1
  have := Int.mul_tdiv_add_tmod a b
  rw [Int.mul_comm] at this
  omega
theorem iR_tmod {a b : Int} (ha : iR a) : iR (a.tmod b) := by
  have h : (a.tmod b).natAbs ≤ a.natAbs := by rw [Int.natAbs_tmod]; exact Nat.mod_le _ _
  by_cases h0 : 0 ≤ a
  · have h1 : 0 ≤ a.tmod b := Int.tmod_nonneg b h0
    have := ha.2
    exact ⟨by omega, by omega⟩
  · have h1 : a.tmod b ≤ 0 := by
      have := Int.tmod_nonneg (a := -a) b (by omega)
      rw [Int.neg_tmod] at this
      omega
    have := ha.1
    exact ⟨by omega, by omega⟩
theorem pw_irem {a b : Int} (hd : RW M pc .irem pc' 1) (hne : b ≠ 0) (K0 : PWg l w M d K k pc' ls (vI (a.tmod b) :: st) G Φ) : PWg l w M d K k pc ls (vI b :: vI a :: st) G Φ := by
  obtain ⟨hd, rfl⟩ := hd
  intro p e s m args below meth c H locs lsr hC hW hO hS hL
  have hb : iR b := hO.2.1 _ List.mem_cons_self
  have ha : iR a := hO.2.1 _ (List.mem_cons_of_mem _ List.mem_cons_self)
  have h := K0 p e s m args below meth c H locs lsr hC hW ⟨hO.1, mem2 (iR_tmod ha) hO.2.1, hO.2.2⟩ hS hL
  refine lv_irem hC.1 hC.2.1 hd (of_ne0 hb hne) ?_
  have e1 : Int32.ofInt a - Int32.ofInt a / Int32.ofInt b * Int32.ofInt b = Int32.ofInt (a.tmod b) := of_mod ha hb
  rw [e1]
  exact h
theorem pw_iremN {a b : Int} (hd : RW M pc .irem pc' 1) (h0 : 0 ≤ a) (h1 : 0 < b) (K0 : PWg l w M d K k pc' ls (vI (a % b) :: st) G Φ) : PWg l w M d K k pc ls (vI b :: vI a :: st) G Φ := by
  refine pw_irem hd (by omega) ?_
  rw [Int.tmod_eq_emod_of_nonneg h0]
  exact K0
theorem pw_inegW {a : Int} (hd : RW M pc .ineg pc' 1) (K0 : PWg l w M d K k pc' ls (vI (wr (-a)) :: st) G Φ) : PWg l w M d K k pc ls (vI a :: st) G Φ := by
  obtain ⟨hd, rfl⟩ := hd
  intro p e s m args below meth c H locs lsr hC hW hO hS hL
  have ha : iR a := hO.2.1 _ List.mem_cons_self
  have h := K0 p e s m args below meth c H locs lsr hC hW ⟨hO.1, mem1 (wr_in _) hO.2.1, hO.2.2⟩ hS hL
  refine lv_ineg hC.1 hC.2.1 hd ?_
  have e1 : -Int32.ofInt a = Int32.ofInt (wr (-a)) := by rw [ofInt_wr, Int32.ofInt_neg]
  rw [e1]
  exact h
def b8 (a : Int) : Int := Int.bmod a 256
def b16 (a : Int) : Int := Int.bmod a 65536
theorem b8_in (a : Int) : -128 ≤ b8 a ∧ b8 a < 128 := ⟨by have := Int.le_bmod (x := a) (m := 256) (by decide); unfold b8; omega, by have := Int.bmod_lt (x := a) (m := 256) (by decide); unfold b8; omega⟩
theorem b16_in (a : Int) : -32768 ≤ b16 a ∧ b16 a < 32768 := ⟨by have := Int.le_bmod (x := a) (m := 65536) (by decide); unfold b16; omega, by have := Int.bmod_lt (x := a) (m := 65536) (by decide); unfold b16; omega⟩
theorem iR_b8 (a : Int) : iR (b8 a) := by have := b8_in a; exact ⟨by omega, by omega⟩
theorem iR_b16 (a : Int) : iR (b16 a) := by have := b16_in a; exact ⟨by omega, by omega⟩
theorem of_b8 {a : Int} (ha : iR a) : (Int32.ofInt a).toInt8.toInt32 = Int32.ofInt (b8 a) := by
  apply Int32.toInt_inj.mp
  rw [tI_of (iR_b8 a), Int8.toInt_toInt32, Int32.toInt_toInt8, tI_of ha]
  rfl
theorem of_b16 {a : Int} (ha : iR a) : (Int32.ofInt a).toInt16.toInt32 = Int32.ofInt (b16 a) := by
  apply Int32.toInt_inj.mp
  rw [tI_of (iR_b16 a), Int16.toInt_toInt32, Int32.toInt_toInt16, tI_of ha]
  rfl
theorem pw_i2b {a : Int} (hd : RW M pc .i2b pc' 1) (K0 : PWg l w M d K k pc' ls (vI (b8 a) :: st) G Φ) : PWg l w M d K k pc ls (vI a :: st) G Φ := by
  obtain ⟨hd, rfl⟩ := hd
  intro p e s m args below meth c H locs lsr hC hW hO hS hL
  have ha : iR a := hO.2.1 _ List.mem_cons_self
  have h := K0 p e s m args below meth c H locs lsr hC hW ⟨hO.1, mem1 (iR_b8 a) hO.2.1, hO.2.2⟩ hS hL
  refine lv_i2b hC.1 hC.2.1 hd (of_b8 ha) ?_
  exact h
theorem pw_i2s {a : Int} (hd : RW M pc .i2s pc' 1) (K0 : PWg l w M d K k pc' ls (vI (b16 a) :: st) G Φ) : PWg l w M d K k pc ls (vI a :: st) G Φ := by
  obtain ⟨hd, rfl⟩ := hd
  intro p e s m args below meth c H locs lsr hC hW hO hS hL
  have ha : iR a := hO.2.1 _ List.mem_cons_self
  have h := K0 p e s m args below meth c H locs lsr hC hW ⟨hO.1, mem1 (iR_b16 a) hO.2.1, hO.2.2⟩ hS hL
  refine lv_i2s hC.1 hC.2.1 hd (of_b16 ha) ?_
  exact h
def c16 (a : Int) : Int := ((Int32.ofInt a).toUInt32 % 65536).toInt32.toInt
theorem pw_i2c {a : Int} (hd : RW M pc .i2c pc' 1) (K0 : PWg l w M d K k pc' ls (vI (c16 a) :: st) G Φ) : PWg l w M d K k pc ls (vI a :: st) G Φ := by
  obtain ⟨hd, rfl⟩ := hd
  intro p e s m args below meth c H locs lsr hC hW hO hS hL
  have ha : iR a := hO.2.1 _ List.mem_cons_self
  have h := K0 p e s m args below meth c H locs lsr hC hW ⟨hO.1, mem1 (iR_toInt _) hO.2.1, hO.2.2⟩ hS hL
  refine lv_i2c hC.1 hC.2.1 hd (v := Int32.ofInt (c16 a)) (by unfold c16; rw [Int32.ofInt_toInt]) ?_
  exact h
theorem pw_icmp_eq {a b : Int} {tgt : Nat} (hd : RB M pc (.if_icmp .eq) tgt pc') (kt : a = b → PWg l w M d K k tgt ls st G Φ) (kf : a ≠ b → PWg l w M d K k pc' ls st G Φ) : PWg l w M d K k pc ls (vI b :: vI a :: st) G Φ := by
  obtain ⟨off, hd, ht, rfl⟩ := hd
  intro p e s m args below meth c H locs lsr hC hW hO hS hL
  have hb : iR b := hO.2.1 _ List.mem_cons_self
  have ha : iR a := hO.2.1 _ (List.mem_cons_of_mem _ List.mem_cons_self)
  have hO' : OKs w G ls st := ⟨hO.1, fun v hv => hO.2.1 v (List.mem_cons_of_mem _ (List.mem_cons_of_mem _ hv)), hO.2.2⟩
  exact lv_icmp_eq hC.1 hC.2.1 hd ht (fun q => kt ((of_eq ha hb).mp q) p e s m args below meth c H locs lsr hC hW hO' hS hL) (fun q => kf (fun z => q ((of_eq ha hb).mpr z)) p e s m args below meth c H locs lsr hC hW hO' hS hL)
theorem pw_if_eq {a : Int} {tgt : Nat} (hd : RB M pc (.ifCond .eq) tgt pc') (kt : a = 0 → PWg l w M d K k tgt ls st G Φ) (kf : a ≠ 0 → PWg l w M d K k pc' ls st G Φ) : PWg l w M d K k pc ls (vI a :: st) G Φ := by
  obtain ⟨off, hd, ht, rfl⟩ := hd
  intro p e s m args below meth c H locs lsr hC hW hO hS hL
  have ha : iR a := hO.2.1 _ List.mem_cons_self
  have hO' : OKs w G ls st := ⟨hO.1, fun v hv => hO.2.1 v (List.mem_cons_of_mem _ hv), hO.2.2⟩
  exact lv_if_eq hC.1 hC.2.1 hd ht (fun q => kt ((of_eq ha iR_0).mp q) p e s m args below meth c H locs lsr hC hW hO' hS hL) (fun q => kf (fun z => q ((of_eq ha iR_0).mpr z)) p e s m args below meth c H locs lsr hC hW hO' hS hL)
theorem pw_icmp_ne {a b : Int} {tgt : Nat} (hd : RB M pc (.if_icmp .ne) tgt pc') (kt : a ≠ b → PWg l w M d K k tgt ls st G Φ) (kf : a = b → PWg l w M d K k pc' ls st G Φ) : PWg l w M d K k pc ls (vI b :: vI a :: st) G Φ := by
  obtain ⟨off, hd, ht, rfl⟩ := hd
  intro p e s m args below meth c H locs lsr hC hW hO hS hL
  have hb : iR b := hO.2.1 _ List.mem_cons_self
  have ha : iR a := hO.2.1 _ (List.mem_cons_of_mem _ List.mem_cons_self)
  have hO' : OKs w G ls st := ⟨hO.1, fun v hv => hO.2.1 v (List.mem_cons_of_mem _ (List.mem_cons_of_mem _ hv)), hO.2.2⟩
  exact lv_icmp_ne hC.1 hC.2.1 hd ht (fun q => kt (fun z => q (by rw [z])) p e s m args below meth c H locs lsr hC hW hO' hS hL) (fun q => kf ((of_eq ha hb).mp q) p e s m args below meth c H locs lsr hC hW hO' hS hL)
theorem pw_if_ne {a : Int} {tgt : Nat} (hd : RB M pc (.ifCond .ne) tgt pc') (kt : a ≠ 0 → PWg l w M d K k tgt ls st G Φ) (kf : a = 0 → PWg l w M d K k pc' ls st G Φ) : PWg l w M d K k pc ls (vI a :: st) G Φ := by
  obtain ⟨off, hd, ht, rfl⟩ := hd
  intro p e s m args below meth c H locs lsr hC hW hO hS hL
  have ha : iR a := hO.2.1 _ List.mem_cons_self
  have hO' : OKs w G ls st := ⟨hO.1, fun v hv => hO.2.1 v (List.mem_cons_of_mem _ hv), hO.2.2⟩
  exact lv_if_ne hC.1 hC.2.1 hd ht (fun q => kt (fun z => q (by rw [z]; rfl)) p e s m args below meth c H locs lsr hC hW hO' hS hL) (fun q => kf ((of_eq ha iR_0).mp q) p e s m args below meth c H locs lsr hC hW hO' hS hL)
theorem pw_icmp_lt {a b : Int} {tgt : Nat} (hd : RB M pc (.if_icmp .lt) tgt pc') (kt : a < b → PWg l w M d K k tgt ls st G Φ) (kf : b ≤ a → PWg l w M d K k pc' ls st G Φ) : PWg l w M d K k pc ls (vI b :: vI a :: st) G Φ := by
  obtain ⟨off, hd, ht, rfl⟩ := hd
  intro p e s m args below meth c H locs lsr hC hW hO hS hL
  have hb : iR b := hO.2.1 _ List.mem_cons_self
  have ha : iR a := hO.2.1 _ (List.mem_cons_of_mem _ List.mem_cons_self)
  have hO' : OKs w G ls st := ⟨hO.1, fun v hv => hO.2.1 v (List.mem_cons_of_mem _ (List.mem_cons_of_mem _ hv)), hO.2.2⟩
  exact lv_icmp_lt hC.1 hC.2.1 hd ht (fun q => kt ((of_lt ha hb).mp q) p e s m args below meth c H locs lsr hC hW hO' hS hL) (fun q => kf (Int.not_lt.mp (fun z => q ((of_lt ha hb).mpr z))) p e s m args below meth c H locs lsr hC hW hO' hS hL)
theorem pw_if_lt {a : Int} {tgt : Nat} (hd : RB M pc (.ifCond .lt) tgt pc') (kt : a < 0 → PWg l w M d K k tgt ls st G Φ) (kf : 0 ≤ a → PWg l w M d K k pc' ls st G Φ) : PWg l w M d K k pc ls (vI a :: st) G Φ := by
  obtain ⟨off, hd, ht, rfl⟩ := hd
  intro p e s m args below meth c H locs lsr hC hW hO hS hL
  have ha : iR a := hO.2.1 _ List.mem_cons_self
  have hO' : OKs w G ls st := ⟨hO.1, fun v hv => hO.2.1 v (List.mem_cons_of_mem _ hv), hO.2.2⟩
  exact lv_if_lt hC.1 hC.2.1 hd ht (fun q => kt ((of_lt ha iR_0).mp q) p e s m args below meth c H locs lsr hC hW hO' hS hL) (fun q => kf (Int.not_lt.mp (fun z => q ((of_lt ha iR_0).mpr z))) p e s m args below meth c H locs lsr hC hW hO' hS hL)
theorem pw_icmp_ge {a b : Int} {tgt : Nat} (hd : RB M pc (.if_icmp .ge) tgt pc') (kt : b ≤ a → PWg l w M d K k tgt ls st G Φ) (kf : a < b → PWg l w M d K k pc' ls st G Φ) : PWg l w M d K k pc ls (vI b :: vI a :: st) G Φ := by
  obtain ⟨off, hd, ht, rfl⟩ := hd
  intro p e s m args below meth c H locs lsr hC hW hO hS hL
  have hb : iR b := hO.2.1 _ List.mem_cons_self
  have ha : iR a := hO.2.1 _ (List.mem_cons_of_mem _ List.mem_cons_self)
  have hO' : OKs w G ls st := ⟨hO.1, fun v hv => hO.2.1 v (List.mem_cons_of_mem _ (List.mem_cons_of_mem _ hv)), hO.2.2⟩
  exact lv_icmp_ge hC.1 hC.2.1 hd ht (fun q => kt ((of_le hb ha).mp q) p e s m args below meth c H locs lsr hC hW hO' hS hL) (fun q => kf (Int.not_le.mp (fun z => q ((of_le hb ha).mpr z))) p e s m args below meth c H locs lsr hC hW hO' hS hL)
theorem pw_if_ge {a : Int} {tgt : Nat} (hd : RB M pc (.ifCond .ge) tgt pc') (kt : 0 ≤ a → PWg l w M d K k tgt ls st G Φ) (kf : a < 0 → PWg l w M d K k pc' ls st G Φ) : PWg l w M d K k pc ls (vI a :: st) G Φ := by
  obtain ⟨off, hd, ht, rfl⟩ := hd
  intro p e s m args below meth c H locs lsr hC hW hO hS hL
  have ha : iR a := hO.2.1 _ List.mem_cons_self
  have hO' : OKs w G ls st := ⟨hO.1, fun v hv => hO.2.1 v (List.mem_cons_of_mem _ hv), hO.2.2⟩
  exact lv_if_ge hC.1 hC.2.1 hd ht (fun q => kt ((of_le iR_0 ha).mp q) p e s m args below meth c H locs lsr hC hW hO' hS hL) (fun q => kf (Int.not_le.mp (fun z => q ((of_le iR_0 ha).mpr z))) p e s m args below meth c H locs lsr hC hW hO' hS hL)
theorem pw_icmp_gt {a b : Int} {tgt : Nat} (hd : RB M pc (.if_icmp .gt) tgt pc') (kt : b < a → PWg l w M d K k tgt ls st G Φ) (kf : a ≤ b → PWg l w M d K k pc' ls st G Φ) : PWg l w M d K k pc ls (vI b :: vI a :: st) G Φ := by
  obtain ⟨off, hd, ht, rfl⟩ := hd
  intro p e s m args below meth c H locs lsr hC hW hO hS hL
  have hb : iR b := hO.2.1 _ List.mem_cons_self
  have ha : iR a := hO.2.1 _ (List.mem_cons_of_mem _ List.mem_cons_self)
  have hO' : OKs w G ls st := ⟨hO.1, fun v hv => hO.2.1 v (List.mem_cons_of_mem _ (List.mem_cons_of_mem _ hv)), hO.2.2⟩
  exact lv_icmp_gt hC.1 hC.2.1 hd ht (fun q => kt ((of_lt hb ha).mp q) p e s m args below meth c H locs lsr hC hW hO' hS hL) (fun q => kf (Int.not_lt.mp (fun z => q ((of_lt hb ha).mpr z))) p e s m args below meth c H locs lsr hC hW hO' hS hL)
theorem pw_if_gt {a : Int} {tgt : Nat} (hd : RB M pc (.ifCond .gt) tgt pc') (kt : 0 < a → PWg l w M d K k tgt ls st G Φ) (kf : a ≤ 0 → PWg l w M d K k pc' ls st G Φ) : PWg l w M d K k pc ls (vI a :: st) G Φ := by
  obtain ⟨off, hd, ht, rfl⟩ := hd
  intro p e s m args below meth c H locs lsr hC hW hO hS hL
  have ha : iR a := hO.2.1 _ List.mem_cons_self
  have hO' : OKs w G ls st := ⟨hO.1, fun v hv => hO.2.1 v (List.mem_cons_of_mem _ hv), hO.2.2⟩
  exact lv_if_gt hC.1 hC.2.1 hd ht (fun q => kt ((of_lt iR_0 ha).mp q) p e s m args below meth c H locs lsr hC hW hO' hS hL) (fun q => kf (Int.not_lt.mp (fun z => q ((of_lt iR_0 ha).mpr z))) p e s m args below meth c H locs lsr hC hW hO' hS hL)
theorem pw_icmp_le {a b : Int} {tgt : Nat} (hd : RB M pc (.if_icmp .le) tgt pc') (kt : a ≤ b → PWg l w M d K k tgt ls st G Φ) (kf : b < a → PWg l w M d K k pc' ls st G Φ) : PWg l w M d K k pc ls (vI b :: vI a :: st) G Φ := by
  obtain ⟨off, hd, ht, rfl⟩ := hd
  intro p e s m args below meth c H locs lsr hC hW hO hS hL
  have hb : iR b := hO.2.1 _ List.mem_cons_self
  have ha : iR a := hO.2.1 _ (List.mem_cons_of_mem _ List.mem_cons_self)
  have hO' : OKs w G ls st := ⟨hO.1, fun v hv => hO.2.1 v (List.mem_cons_of_mem _ (List.mem_cons_of_mem _ hv)), hO.2.2⟩
  exact lv_icmp_le hC.1 hC.2.1 hd ht (fun q => kt ((of_le ha hb).mp q) p e s m args below meth c H locs lsr hC hW hO' hS hL) (fun q => kf (Int.not_le.mp (fun z => q ((of_le ha hb).mpr z))) p e s m args below meth c H locs lsr hC hW hO' hS hL)
theorem pw_if_le {a : Int} {tgt : Nat} (hd : RB M pc (.ifCond .le) tgt pc') (kt : a ≤ 0 → PWg l w M d K k tgt ls st G Φ) (kf : 0 < a → PWg l w M d K k pc' ls st G Φ) : PWg l w M d K k pc ls (vI a :: st) G Φ := by
  obtain ⟨off, hd, ht, rfl⟩ := hd
  intro p e s m args below meth c H locs lsr hC hW hO hS hL
  have ha : iR a := hO.2.1 _ List.mem_cons_self
  have hO' : OKs w G ls st := ⟨hO.1, fun v hv => hO.2.1 v (List.mem_cons_of_mem _ hv), hO.2.2⟩
  exact lv_if_le hC.1 hC.2.1 hd ht (fun q => kt ((of_le ha iR_0).mp q) p e s m args below meth c H locs lsr hC hW hO' hS hL) (fun q => kf (Int.not_le.mp (fun z => q ((of_le ha iR_0).mpr z))) p e s m args below meth c H locs lsr hC hW hO' hS hL)
theorem pw_goto {tgt : Nat} (hd : RB M pc .goto tgt pc') (K0 : PWg l w M d K k tgt ls st G Φ) : PWg l w M d K k pc ls st G Φ := by
  obtain ⟨off, hd, ht, rfl⟩ := hd
  intro p e s m args below meth c H locs lsr hC hW hO hS hL
  exact lv_goto hC.1 hC.2.1 hd ht (K0 p e s m args below meth c H locs lsr hC hW hO hS hL)
theorem pw_dup {v : PV} (hd : RW M pc .dup pc' 1) (hv : noJ [v] = true) (K0 : PWg l w M d K k pc' ls (v :: v :: st) G Φ) : PWg l w M d K k pc ls (v :: st) G Φ := by
  obtain ⟨hd, rfl⟩ := hd
  intro p e s m args below meth c H locs lsr hC hW hO hS hL
  have h := K0 p e s m args below meth c H locs lsr hC hW ⟨hO.1, memC (hO.2.1 _ List.mem_cons_self) hO.2.1, hO.2.2⟩ hS hL
  exact lv_dup hC.1 hC.2.1 hd (noJ_cat w [v] hv _ (List.mem_map.mpr ⟨v, List.mem_cons_self, rfl⟩)) h
theorem pw_dup2 {v u : PV} (hd : RW M pc .dup2 pc' 1) (hv : noJ [v] = true) (hu : noJ [u] = true) (K0 : PWg l w M d K k pc' ls (v :: u :: v :: u :: st) G Φ) : PWg l w M d K k pc ls (v :: u :: st) G Φ := by
  obtain ⟨hd, rfl⟩ := hd
  intro p e s m args below meth c H locs lsr hC hW hO hS hL
  have h := K0 p e s m args below meth c H locs lsr hC hW ⟨hO.1, memC (hO.2.1 _ List.mem_cons_self) (memC (hO.2.1 _ (List.mem_cons_of_mem _ List.mem_cons_self)) hO.2.1), hO.2.2⟩ hS hL
  exact lv_dup2_11 hC.1 hC.2.1 hd (noJ_cat w [v] hv _ (List.mem_map.mpr ⟨v, List.mem_cons_self, rfl⟩)) (noJ_cat w [u] hu _ (List.mem_map.mpr ⟨u, List.mem_cons_self, rfl⟩)) h
theorem pw_pop {v : PV} (hd : RW M pc .pop pc' 1) (hv : noJ [v] = true) (K0 : PWg l w M d K k pc' ls st G Φ) : PWg l w M d K k pc ls (v :: st) G Φ := by
  obtain ⟨hd, rfl⟩ := hd
  intro p e s m args below meth c H locs lsr hC hW hO hS hL
  have h := K0 p e s m args below meth c H locs lsr hC hW ⟨hO.1, fun u hu => hO.2.1 u (List.mem_cons_of_mem _ hu), hO.2.2⟩ hS hL
  exact lv_pop hC.1 hC.2.1 hd (noJ_cat w [v] hv _ (List.mem_map.mpr ⟨v, List.mem_cons_self, rfl⟩)) h
theorem pw_ifnull {q : Option PR} {tgt : Nat} (hd : RB M pc .ifnull tgt pc') (kt : q = none → PWg l w M d K k tgt ls st G Φ) (kf : ∀ z, q = some z → PWg l w M d K k pc' ls st G Φ) : PWg l w M d K k pc ls (vQ q :: st) G Φ := by
  obtain ⟨off, hd, ht, rfl⟩ := hd
  intro p e s m args below meth c H locs lsr hC hW hO hS hL
  have hO' : OKs w G ls st := ⟨hO.1, fun v hv => hO.2.1 v (List.mem_cons_of_mem _ hv), hO.2.2⟩
  cases q with
  | none => exact lv_ifnullN hC.1 hC.2.1 hd ht (kt rfl p e s m args below meth c H locs lsr hC hW hO' hS hL)
  | some z => exact lv_ifnull hC.1 hC.2.1 hd (kf z rfl p e s m args below meth c H locs lsr hC hW hO' hS hL)
theorem pw_ifnonnull {q : Option PR} {tgt : Nat} (hd : RB M pc .ifnonnull tgt pc') (kt : ∀ z, q = some z → PWg l w M d K k tgt ls st G Φ) (kf : q = none → PWg l w M d K k pc' ls st G Φ) : PWg l w M d K k pc ls (vQ q :: st) G Φ := by
  obtain ⟨off, hd, ht, rfl⟩ := hd
  intro p e s m args below meth c H locs lsr hC hW hO hS hL
  have hO' : OKs w G ls st := ⟨hO.1, fun v hv => hO.2.1 v (List.mem_cons_of_mem _ hv), hO.2.2⟩
  cases q with
  | none => exact lv_ifnonnullN hC.1 hC.2.1 hd (kf rfl p e s m args below meth c H locs lsr hC hW hO' hS hL)
  | some z => exact lv_ifnonnull hC.1 hC.2.1 hd ht (kt z rfl p e s m args below meth c H locs lsr hC hW hO' hS hL)
theorem pw_null (hd : RW M pc .aconst_null pc' 1) (K0 : PWg l w M d K k pc' ls (vN :: st) G Φ) : PWg l w M d K k pc ls st G Φ := by
  obtain ⟨hd, rfl⟩ := hd
  intro p e s m args below meth c H locs lsr hC hW hO hS hL
  have h := K0 p e s m args below meth c H locs lsr hC hW ⟨hO.1, memC (u := vN) trivial hO.2.1, hO.2.2⟩ hS hL
  exact lv_null hC.1 hC.2.1 hd h
/-- the ends -/
theorem pw_end {v : PV} {Q : Option PV} (hk : k ≤ K) (hq : Φ w Q G) (hO : okG w.1.2 G) (hv : ∀ u, Q = some u → okv w.1.2 u) {p : Program} {e : Env} {s : State} {m : MethodId} {args : Array Value} {below : List Frame} {meth : Method} {c : Code} {H : Heap} {locs : List Loc} {g : JFrame} (hW : Wd w G H) (hS : va_S (Ab w) s.heap H locs)
    (h : (∀ t : State, t.heap = H → s.WarmedH t.vm → Qcw Φ w args s (.returned (Q.map (rvv w))) t) → W p l e (rm d K) s m args below meth c H locs K (12 * K) (MQ below (Qcw Φ w) args s K (12 * K) (Ab w)) g) : W p l e (rm d K) s m args below meth c H locs k (12 * k) (MQ below (Qcw Φ w) args s K (12 * K) (Ab w)) g := by
  refine W.widen hk (by omega) (h fun t ht _ => ⟨⟨w, Q, G, hq, rfl, rfl, by rw [ht]; exact hW, hO, hv⟩, hS.F ht⟩)
theorem pw_iret {a : Int} (hd : RW M pc .ireturn pc' 1) (hr : M.2.2.2 = some .int) (hk : k ≤ K) (hq : Φ w (some (vI a)) G) : PWg l w M d K k pc ls [vI a] G Φ := by
  obtain ⟨hd, -⟩ := hd
  intro p e s m args below meth c H locs lsr hC hW hO hS hL
  refine pw_end (v := vI a) hk hq hO.1 (fun u hu => by cases hu; exact hO.2.1 _ List.mem_cons_self) hW hS fun hQ => ?_
  exact W.iret hC.1 hC.2.1 (by rw [hC.2.2.1, hr]) hQ hS.2.2 hd hC.2.2.2.2.2.2.1
theorem pw_zret {a : Int} (hd : RW M pc .ireturn pc' 1) (hr : M.2.2.2 = some .boolean) (hz : a = 0 ∨ a = 1) (hk : k ≤ K) (hq : Φ w (some (vI a)) G) : PWg l w M d K k pc ls [vI a] G Φ := by
  obtain ⟨hd, -⟩ := hd
  intro p e s m args below meth c H locs lsr hC hW hO hS hL
  refine pw_end (v := vI a) hk hq hO.1 (fun u hu => by cases hu; exact hO.2.1 _ List.mem_cons_self) hW hS fun hQ => ?_
  exact W.zret hC.1 hC.2.1 (ty := .boolean) (by rw [hC.2.2.1, hr]) (by rcases hz with rfl | rfl <;> rfl) hQ hS.2.2 hd hC.2.2.2.2.2.2.1
theorem pw_vret (hd : RW M pc .return_ pc' 1) (hr : M.2.2.2 = none) (hk : k ≤ K) (hq : Φ w none G) : PWg l w M d K k pc ls [] G Φ := by
  obtain ⟨hd, -⟩ := hd
  intro p e s m args below meth c H locs lsr hC hW hO hS hL
  refine pw_end (v := vN) hk hq hO.1 (fun u hu => by cases hu) hW hS fun hQ => ?_
  exact W.vret hC.1 hC.2.1 (by rw [hC.2.2.1, hr]) hQ hS.2.2 hd hC.2.2.2.2.2.2.1
theorem pw_aret {q : Option PR} {rt : FieldType} (hd : RW M pc .areturn pc' 1) (hr : M.2.2.2 = some rt) (hrt : (∃ n, rt = .object n) ∨ ∃ t, rt = .array t) (hk : k ≤ K) (hq : Φ w (some (vQ q)) G) : PWg l w M d K k pc ls [vQ q] G Φ := by
  obtain ⟨hd, -⟩ := hd
  intro p e s m args below meth c H locs lsr hC hW hO hS hL
  refine pw_end (v := vQ q) hk hq hO.1 (fun u hu => by cases hu; exact hO.2.1 _ List.mem_cons_self) hW hS fun hQ => ?_
  exact W.aret hC.1 hC.2.1 (by rw [hC.2.2.1, hr]) hrt (by cases q with | none => exact Or.inl rfl | some z => exact Or.inr ⟨_, rfl⟩) hQ hS.2.2 hd hC.2.2.2.2.2.2.1
theorem pw_if_eqB {c0 : Prop} {tgt : Nat} (hd : RB M pc (.ifCond .eq) tgt pc') (kt : ¬ c0 → PWg l w M d K k tgt ls st G Φ) (kf : c0 → PWg l w M d K k pc' ls st G Φ) : PWg l w M d K k pc ls (vI (b2i c0) :: st) G Φ :=
  pw_if_eq hd (fun h => kt (b2i_eq0.mp h)) (fun h => kf (Classical.byContradiction fun q => h (b2i_f q)))
theorem pw_if_neB {c0 : Prop} {tgt : Nat} (hd : RB M pc (.ifCond .ne) tgt pc') (kt : c0 → PWg l w M d K k tgt ls st G Φ) (kf : ¬ c0 → PWg l w M d K k pc' ls st G Φ) : PWg l w M d K k pc ls (vI (b2i c0) :: st) G Φ :=
  pw_if_ne hd (fun h => kt (Classical.byContradiction fun q => h (b2i_f q))) (fun h => kf (b2i_eq0.mp h))
/-- the top of the stack by another word -/
theorem pw_top {a b : Int} (h : a = b) (K0 : PWg l w M d K k pc ls (vI b :: st) G Φ) : PWg l w M d K k pc ls (vI a :: st) G Φ := by rw [h]; exact K0
theorem pw_topQ {a b : Option PR} (h : a = b) (K0 : PWg l w M d K k pc ls (vQ b :: st) G Φ) : PWg l w M d K k pc ls (vQ a :: st) G Φ := by rw [h]; exact K0
theorem pw_conseq {Ψ : Wo → Option PV → PH → Prop} (h : ∀ w' r G', Φ w' r G' → Ψ w' r G') (K0 : PWg l w M d K k pc ls st G Φ) : PWg l w M d K k pc ls st G Ψ := by
  intro p e s m args below meth c H locs lsr hC hW hO hS hL T hT X
  obtain ⟨t, a, o, b1, b2, ⟨⟨w', r, G', h1, h2⟩, h3⟩, h4⟩ := K0 p e s m args below meth c H locs lsr hC hW hO hS hL T hT X
  exact ⟨t, a, o, b1, b2, ⟨⟨w', r, G', h w' r G' h1, h2⟩, h3⟩, h4⟩
theorem pe {P : Option PV → PH → Prop} {a b : Int} {G0 : PH} (h : P (some (vI a)) G0) (e : b = a) : P (some (vI b)) G0 := by rw [e]; exact h
theorem pw_eqG {G' : PH} (hg : G = G') (K0 : PWg l w M d K k pc ls st G' Φ) : PWg l w M d K k pc ls st G Φ := by rw [hg]; exact K0
end RULES
