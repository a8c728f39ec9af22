/-! Less local knowledge, switches, longs, static tables, new persons, copies. -/
def lsub : List (Option PV) → List (Option PV) → Prop
  | [], [] => True
  | none :: a, _ :: b => lsub a b
  | some v :: a, some u :: b => v = u ∧ lsub a b
  | _, _ => False
theorem lsub_at : ∀ {a b : List (Option PV)}, lsub a b → ∀ {i : Nat} {v : PV}, a[i]? = some (some v) → b[i]? = some (some v)
  | [], [], _, i, v, h => by simp at h
  | none :: a, _ :: b, hs, i, v, h => by
    cases i with
    | zero => simp at h
    | succ i =>
      rw [List.getElem?_cons_succ] at h ⊢
      exact lsub_at (a := a) hs h
  | some u :: a, some u' :: b, hs, i, v, h => by
    obtain ⟨h1, h2⟩ := hs
    subst h1
    cases i with
    | zero => exact h
    | succ i =>
      rw [List.getElem?_cons_succ] at h ⊢
      exact lsub_at h2 h
  | [], _ :: _, hs, _, _, _ => hs.elim
  | none :: _, [], hs, _, _, _ => hs.elim
  | some _ :: _, [], hs, _, _, _ => hs.elim
  | some _ :: _, none :: _, hs, _, _, _ => hs.elim
def swT : List (Int × Nat) → Nat → Int → Nat
  | [], d, _ => d
  | (k, t) :: r, d, a => if a = k then t else swT r d a
def tsT (pc : Nat) : Int → List Int → List (Int × Nat)
  | _, [] => []
  | lo, o :: r => (lo, ((pc : Int) + o).toNat) :: tsT pc (lo + 1) r
def lsT (pc : Nat) : List (Int × Int) → List (Int × Nat)
  | [] => []
  | (k, o) :: r => (k, ((pc : Int) + o).toNat) :: lsT pc r
def RTS (M : MI) (pc : Nat) (tbl : List (Int × Nat)) (df : Nat) : Prop := ∃ (dflt lo hi : Int) (offs : Array Int) (len : Nat), decode M.2.1 pc = .ok (.tableswitch dflt lo hi offs, len) ∧ (hi - lo + 1 = offs.toList.length ∧ (pc : Int) + dflt = df) ∧ tbl = tsT pc lo offs.toList ∧ offs.toList.all (fun o => decide (0 ≤ (pc : Int) + o)) = true
def RLS (M : MI) (pc : Nat) (tbl : List (Int × Nat)) (df : Nat) : Prop := ∃ (dflt : Int) (ps : Array (Int × Int)) (len : Nat), decode M.2.1 pc = .ok (.lookupswitch dflt ps, len) ∧ ((pc : Int) + dflt = df ∧ (ps.toList.zip (ps.toList.drop 1)).all (fun (a, next) => a.1 < next.1) = true) ∧ tbl = lsT pc ps.toList ∧ ps.toList.all (fun o => decide (0 ≤ (pc : Int) + o.2)) = true
theorem tsT_out (pc df : Nat) (a : Int) : ∀ (l : List Int) (lo : Int), (a < lo ∨ lo + l.length ≤ a) → swT (tsT pc lo l) df a = df
  | [], _, _ => rfl
  | o :: r, lo, h => by
    rw [List.length_cons] at h
    show (if a = lo then _ else swT (tsT pc (lo + 1) r) df a) = df
    rw [if_neg (by omega)]
    exact tsT_out pc df a r (lo + 1) (by omega)
theorem tsT_in (pc df : Nat) (a : Int) : ∀ (l : List Int) (lo : Int), lo ≤ a → a < lo + l.length → ∃ o, l[(a - lo).toNat]? = some o ∧ swT (tsT pc lo l) df a = ((pc : Int) + o).toNat
  | [], lo, h1, h2 => by rw [List.length_nil] at h2; omega
  | o :: r, lo, h1, h2 => by
    rw [List.length_cons] at h2
    by_cases h : a = lo
    · refine ⟨o, ?_, ?_⟩
      · rw [h, show (lo - lo).toNat = 0 by omega]; rfl
      · show (if a = lo then _ else swT (tsT pc (lo + 1) r) df a) = _
        rw [if_pos h]
    · obtain ⟨o', e1, e2⟩ := tsT_in pc df a r (lo + 1) (by omega) (by omega)
      refine ⟨o', ?_, ?_⟩
      · rw [show (a - lo).toNat = (a - (lo + 1)).toNat + 1 by omega, List.getElem?_cons_succ]; exact e1
      · show (if a = lo then _ else swT (tsT pc (lo + 1) r) df a) = _
        rw [if_neg h]; exact e2
theorem lsT_at (pc df : Nat) (d a : Int) (hd : (pc : Int) + d = df) : ∀ (l : List (Int × Int)), l.all (fun o => decide (0 ≤ (pc : Int) + o.2)) = true → (pc : Int) + Op.lookupswitch.offset l d a = (swT (lsT pc l) df a : Nat)
  | [], _ => hd
  | (k, o) :: r, h => by
    simp only [List.all_cons, Bool.and_eq_true, decide_eq_true_eq] at h
    rw [Op.lookupswitch.offset_cons]
    show _ = ((if a = k then ((pc : Int) + o).toNat else swT (lsT pc r) df a : Nat) : Int)
    by_cases q : a = k
    · rw [if_pos q, if_pos q.symm]; omega
    · rw [if_neg q, if_neg (Ne.symm q)]; exact lsT_at pc df d a hd r h.2
theorem iR_64 {a : Int} (h : iR a) : (Int32.ofInt a).toInt64 = Int64.ofInt a := by
  apply Int64.toInt_inj.mp
  have h1 := h.1
  have h2 := h.2
  rw [Int32.toInt_toInt64, tI_of h, Int64.toInt_ofInt]
  have e : (Int64.size : Int) = 18446744073709551616 := rfl
  exact (Int.bmod_eq_of_le (by rw [e]; omega) (by rw [e]; omega)).symm
theorem tI64 {a : Int} (h : -9223372036854775808 ≤ a ∧ a < 9223372036854775808) : (Int64.ofInt a).toInt = a := by
  rw [Int64.toInt_ofInt]
  have e : (Int64.size : Int) = 18446744073709551616 := rfl
  exact Int.bmod_eq_of_le (by rw [e]; omega) (by rw [e]; omega)
def lcm' (a b : Int) : Int := if b < a then 1 else if a = b then 0 else -1
theorem lg_lcm {a b : Int} (ha : -9223372036854775808 ≤ a ∧ a < 9223372036854775808) (hb : -9223372036854775808 ≤ b ∧ b < 9223372036854775808) : lg_cmp (Int64.ofInt a) (Int64.ofInt b) = Int32.ofInt (lcm' a b) := by
  unfold lg_cmp lcm'
  have e1 : (Int64.ofInt a > Int64.ofInt b) ↔ b < a := by rw [gt_iff_lt, Int64.lt_iff_toInt_lt, tI64 ha, tI64 hb]
  have e2 : (Int64.ofInt a = Int64.ofInt b) ↔ a = b := by rw [← Int64.toInt_inj, tI64 ha, tI64 hb]
  by_cases h1 : b < a
  · rw [if_pos h1, if_pos (e1.mpr h1)]; rfl
  · rw [if_neg h1, if_neg (fun q => h1 (e1.mp q))]
    by_cases h2 : a = b
    · rw [if_pos h2, if_pos (e2.mpr h2)]; rfl
    · rw [if_neg h2, if_neg (fun q => h2 (e2.mp q))]; rfl
theorem lcm_lt {a b : Int} : lcm' a b < 0 ↔ a < b := by unfold lcm'; split <;> (try split) <;> omega
theorem lcm_gt {a b : Int} : 0 < lcm' a b ↔ b < a := by unfold lcm'; split <;> (try split) <;> omega
theorem iR_lcm (a b : Int) : iR (lcm' a b) := by unfold lcm' iR; split <;> (try split) <;> omega
def RLL (M : MI) (pc i pc' : Nat) : Prop := (∃ k : Fin 4, decode M.2.1 pc = .ok (.lload_n k, 1) ∧ (k : Nat) = i ∧ pc + 1 = pc') ∨ (decode M.2.1 pc = .ok (.lload i, 2) ∧ pc + 2 = pc')
def RLT (M : MI) (pc i pc' : Nat) : Prop := i + 1 < M.2.2.1 ∧ ((∃ k : Fin 4, decode M.2.1 pc = .ok (.lstore_n k, 1) ∧ (k : Nat) = i ∧ pc + 1 = pc') ∨ (decode M.2.1 pc = .ok (.lstore i, 2) ∧ pc + 2 = pc'))
def RLC (M : MI) (pc : Nat) (n : Int) (pc' : Nat) : Prop := (∃ k : Fin 2, decode M.2.1 pc = .ok (.lconst k, 1) ∧ ((k : Nat) : Int) = n ∧ pc + 1 = pc') ∨ (∃ idx : Nat, decode M.2.1 pc = .ok (.ldc2_w idx, 3) ∧ Cond.constantLong M.1.cls idx (Int64.ofInt n) ∈ UW ∧ (-9223372036854775808 ≤ n ∧ n < 9223372036854775808) ∧ pc + 3 = pc')
theorem Lr.storedL {w : Wo} {pls : List (Option PV)} {ls : Array Slot} {nL i : Nat} {v : PV} (hj : jOK pls i = true) (h : lv_has ls nL ((i, rvv w v) :: (prs w pls).filter (fun q => !(q.1 == i) && (!(q.1 == i + 1) && !(q.1 + 1 == i && q.2.category == 2))))) : Lr w ((pls.set i (some v)).set (i + 1) none) ls nL := by
  refine ⟨h.1, h.2.1, fun j u hu => ?_⟩
  have hj1 : j ≠ i + 1 := by
    intro e
    subst e
    rcases Nat.lt_or_ge (i + 1) (pls.set i (some v)).length with q | q
    · rw [List.getElem?_set_self q] at hu; cases hu
    · rw [List.getElem?_eq_none (by rw [List.length_set]; exact q)] at hu; cases hu
  rw [List.getElem?_set_ne (Ne.symm hj1)] at hu
  by_cases hji : j = i
  · subst hji
    have hlt : j < pls.length := by
      have := (List.getElem?_eq_some_iff.mp hu).1
      rwa [List.length_set] at this
    rw [List.getElem?_set_self hlt] at hu
    cases hu
    exact h.2.2 _ List.mem_cons_self
  · rw [List.getElem?_set_ne (Ne.symm hji)] at hu
    refine h.2.2 (j, rvv w u) (List.mem_cons_of_mem _ (List.mem_filter.mpr ⟨prs_mem.mpr ⟨u, hu, rfl⟩, ?_⟩))
    have h1 : (j == i) = false := by simpa using hji
    have h1' : (j == i + 1) = false := by simpa using hj1
    show (!(j == i) && (!(j == i + 1) && !(j + 1 == i && (rvv w u).category == 2))) = true
    rw [h1, h1']
    by_cases hj2 : j + 1 = i
    · subst hj2
      have hj' : (match pls[j]? with
        | some (some (.inr (.inr _))) => false
        | _ => true) = true := hj
      rw [hu] at hj'
      rcases u with n | (_ | q) | n
      · simp [rvv, Value.category]
      · simp [rvv, Value.category]
      · simp [rvv, Value.category]
      · exact absurd hj' (by simp)
    · have h2 : (j + 1 == i) = false := by simpa using hj2
      rw [h2]; rfl
def RGS (M : MI) (pc : Nat) (f : String) (pc' : Nat) : Prop := ∃ idx, decode M.2.1 pc = .ok (.getstatic idx, 3) ∧ Cond.fieldLink M.1.cls idx "NameRolls$Person" f "[I" ∈ UW ∧ pc + 3 = pc'
def abF (i : Int) : Int := abT.getD i.toNat 0
def boF (i : Int) : Int := boT.getD i.toNat 0
def newG (G : PH) (np : Nat) : PH := (fun c r k => if c = 3 ∧ r = np then 0 else G.1 c r k, G.2)
def RN (M : MI) (pc pc' : Nat) : Prop := ∃ idx, decode M.2.1 pc = .ok (.new idx, 3) ∧ Cond.classLink M.1.cls idx RX3 ∈ UW ∧ Cond.instantiable RX3 12 ∈ UW ∧ Cond.initialized RX3 ∈ UW ∧ pc + 3 = pc'
def ROI (M : MI) (pc pc' : Nat) : Prop := ∃ idx, decode M.2.1 pc = .ok (.invokespecial idx, 3) ∧ Cond.methodLink M.1.cls idx Lib.objectInit ∈ UW ∧ Cond.instanceMethod Lib.objectInit ∈ UW ∧ Cond.code Lib.objectInit ⟨#[0xb1]⟩ 1 none ∈ UW ∧ pc + 3 = pc'
def cpyA (G : PH) (c0 : Nat) (r0 : Int) (c1 : Nat) (r1 n : Int) : Int → Int := fun j => if 0 ≤ j ∧ j < n then gA G c0 r0 j else gA G c1 r1 j
theorem ent_uA {w : Wo} {G : PH} {c : Nat} {r : Int} {f : Int → Int} {c' : Nat} {r' : Int} (h : ¬ (c' = c ∧ r' = r)) : ent w (uA G c r f) c' r' = ent w G c' r' := by
  have e : (fun j : Nat => Int32.ofInt (gA (uA G c r f) c' r' j)) = fun j : Nat => Int32.ofInt (gA G c' r' j) := funext fun j => by rw [gA_uA, if_neg h]
  unfold ent
  rw [e]
  exact congrArg (entG _ _ · _ _) rfl
theorem okG_uA {np : Nat} {G : PH} {c : Nat} {r : Int} {f : Int → Int} (h : okG np G) (hf : ∀ j, iR (f j)) : okG np (uA G c r f) := by
  refine ⟨h.1, fun c' r' k' => ?_, h.2.2⟩
  rw [gA_uA]
  by_cases q : c' = c ∧ r' = r
  · rw [if_pos q]; exact hf k'
  · rw [if_neg q]; exact h.2.1 c' r' k'
def RAC (M : MI) (pc pc' : Nat) : Prop := ∃ idx, decode M.2.1 pc = .ok (.invokestatic idx, 3) ∧ Cond.methodLink M.1.cls idx arraycopyName ∈ UW ∧ (Cond.native arraycopyName ∈ UW ∧ Cond.static arraycopyName ∈ UW ∧ Cond.initialized "java/lang/System" ∈ UW) ∧ pc + 3 = pc'
section SPECIAL
variable {l : Launch} {w : Wo} {M : MI} {d K k pc pc' : Nat} {ls ls' : List (Option PV)} {st : List PV} {G : PH} {Φ : Wo → Option PV → PH → Prop}
theorem lsub_mem {a b : List (Option PV)} (h : lsub a b) {v : PV} (hv : some v ∈ a) : some v ∈ b := by
  obtain ⟨i, hi⟩ := List.getElem?_of_mem hv
  exact List.mem_of_getElem? (lsub_at h hi)
theorem pw_weakL (h : lsub ls' ls) (K0 : PWg l w M d K k pc ls' st G Φ) : PWg l w M d K k pc ls st G Φ := by
  intro p e s m args below meth c H locs lsr hC hW hO hS hL
  exact K0 p e s m args below meth c H locs lsr hC hW ⟨hO.1, hO.2.1, fun v hv => hO.2.2 v (lsub_mem h hv)⟩ hS ⟨hL.1, hL.2.1, fun i v hv => hL.2.2 i v (lsub_at h hv)⟩
theorem pw_tswitch {tbl : List (Int × Nat)} {df : Nat} {a : Int} (hd : RTS M pc tbl df) (K0 : PWg l w M d K k (swT tbl df a) ls st G Φ) : PWg l w M d K k pc ls (vI a :: st) G Φ := by
  obtain ⟨dflt, lo, hi, offs, len, hd, ⟨h1, h2⟩, rfl, h4⟩ := hd
  intro p e s m args below meth c H locs lsr hC hW hO hS hL
  have ha : iR a := hO.2.1 _ List.mem_cons_self
  have h := K0 p e s m args below meth c H locs lsr hC hW ⟨hO.1, fun v hv => hO.2.1 v (List.mem_cons_of_mem _ hv), hO.2.2⟩ hS hL
  by_cases hin : lo ≤ a ∧ a < lo + offs.toList.length
  · obtain ⟨o, e1, e2⟩ := tsT_in pc df a offs.toList lo hin.1 hin.2
    rw [e2] at h
    have h0 : 0 ≤ (pc : Int) + o := by
      have := List.all_eq_true.mp h4 o (List.mem_of_getElem? e1)
      simpa using this
    exact lv_tableIn (off := o) (tgt := ((pc : Int) + o).toNat) hC.1 hC.2.1 hd (by rw [tI_of ha]; omega) (by rw [tI_of ha]; omega) (by rw [tI_of ha, ← Array.getElem?_toList]; exact e1) (by omega) h
  · rw [tsT_out pc df a offs.toList lo (by omega)] at h
    exact lv_tableOut hC.1 hC.2.1 hd (by rw [tI_of ha]; omega) h2 h
theorem pw_lswitch {tbl : List (Int × Nat)} {df : Nat} {a : Int} (hd : RLS M pc tbl df) (K0 : PWg l w M d K k (swT tbl df a) ls st G Φ) : PWg l w M d K k pc ls (vI a :: st) G Φ := by
  obtain ⟨dflt, ps, len, hd, ⟨h2, h3⟩, rfl, h4⟩ := hd
  intro p e s m args below meth c H locs lsr hC hW hO hS hL
  have ha : iR a := hO.2.1 _ List.mem_cons_self
  have h := K0 p e s m args below meth c H locs lsr hC hW ⟨hO.1, fun v hv => hO.2.1 v (List.mem_cons_of_mem _ hv), hO.2.2⟩ hS hL
  exact lv_lookup hC.1 hC.2.1 hd h3 rfl (by rw [tI_of ha]; exact lsT_at pc df dflt a h2 ps.toList h4) h
theorem pw_swt {k0 : Int} {t df : Nat} {r : List (Int × Nat)} {a : Int} (kt : a = k0 → PWg l w M d K k t ls st G Φ) (kf : a ≠ k0 → PWg l w M d K k (swT r df a) ls st G Φ) : PWg l w M d K k (swT ((k0, t) :: r) df a) ls st G Φ := by
  show PWg l w M d K k (if a = k0 then t else swT r df a) ls st G Φ
  by_cases h : a = k0
  · rw [if_pos h]; exact kt h
  · rw [if_neg h]; exact kf h
theorem pw_swd {df : Nat} {a : Int} (K0 : PWg l w M d K k df ls st G Φ) : PWg l w M d K k (swT [] df a) ls st G Φ := K0
theorem pw_i2l {a : Int} (hd : RW M pc .i2l pc' 1) (K0 : PWg l w M d K k pc' ls (vJ a :: st) G Φ) : PWg l w M d K k pc ls (vI a :: st) G Φ := by
  obtain ⟨hd, rfl⟩ := hd
  intro p e s m args below meth c H locs lsr hC hW hO hS hL
  have ha : iR a := hO.2.1 _ List.mem_cons_self
  have h := K0 p e s m args below meth c H locs lsr hC hW ⟨hO.1, mem1 (show okv _ (vJ a) from ⟨by have := ha.1; omega, by have := ha.2; omega⟩) hO.2.1, hO.2.2⟩ hS hL
  exact lv_i2l hC.1 hC.2.1 hd (iR_64 ha) h
theorem pw_l2i {a : Int} (hd : RW M pc .l2i pc' 1) (ha : -2147483648 ≤ a ∧ a < 2147483648) (K0 : PWg l w M d K k pc' ls (vI a :: st) G Φ) : PWg l w M d K k pc ls (vJ a :: st) G Φ := by
  obtain ⟨hd, rfl⟩ := hd
  intro p e s m args below meth c H locs lsr hC hW hO hS hL
  have h := K0 p e s m args below meth c H locs lsr hC hW ⟨hO.1, mem1 (show okv _ (vI a) from ha) hO.2.1, hO.2.2⟩ hS hL
  refine lv_l2i (v := Int32.ofInt a) hC.1 hC.2.1 hd ?_ h
  rw [← iR_64 ha]
  exact Int32.toInt32_toInt64 _
theorem pw_ladd {a b : Int} (hd : RW M pc .ladd pc' 1) (hr : -9223372036854775808 ≤ a + b ∧ a + b < 9223372036854775808) (K0 : PWg l w M d K k pc' ls (vJ (a + b) :: st) G Φ) : PWg l w M d K k pc ls (vJ b :: vJ a :: st) G Φ := by
  obtain ⟨hd, rfl⟩ := hd
  intro p e s m args below meth c H locs lsr hC hW hO hS hL
  have h := K0 p e s m args below meth c H locs lsr hC hW ⟨hO.1, mem2 (show okv _ (vJ (a + b)) from hr) hO.2.1, hO.2.2⟩ hS hL
  refine lv_ladd hC.1 hC.2.1 hd ?_
  rw [← Int64.ofInt_add]
  exact h
theorem pw_lmul {a b : Int} (hd : RW M pc .lmul pc' 1) (hr : -9223372036854775808 ≤ a * b ∧ a * b < 9223372036854775808) (K0 : PWg l w M d K k pc' ls (vJ (a * b) :: st) G Φ) : PWg l w M d K k pc ls (vJ b :: vJ a :: st) G Φ := by
  obtain ⟨hd, rfl⟩ := hd
  intro p e s m args below meth c H locs lsr hC hW hO hS hL
  have h := K0 p e s m args below meth c H locs lsr hC hW ⟨hO.1, mem2 (show okv _ (vJ (a * b)) from hr) hO.2.1, hO.2.2⟩ hS hL
  refine lv_lmul hC.1 hC.2.1 hd ?_
  rw [← Int64.ofInt_mul]
  exact h
theorem pw_lcmp {a b : Int} (hd : RW M pc .lcmp pc' 1) (K0 : PWg l w M d K k pc' ls (vI (lcm' a b) :: st) G Φ) : PWg l w M d K k pc ls (vJ b :: vJ a :: st) G Φ := by
  obtain ⟨hd, rfl⟩ := hd
  intro p e s m args below meth c H locs lsr hC hW hO hS hL
  have hb := hO.2.1 (vJ b) List.mem_cons_self
  have ha := hO.2.1 (vJ a) (List.mem_cons_of_mem _ List.mem_cons_self)
  have h := K0 p e s m args below meth c H locs lsr hC hW ⟨hO.1, mem2 (show okv _ (vI (lcm' a b)) from iR_lcm a b) hO.2.1, hO.2.2⟩ hS hL
  refine W.lcmp hC.1 hC.2.1 hd ?_
  rw [lg_lcm ha hb]
  exact h
theorem pw_lconst {n : Int} (hd : RLC M pc n pc') (K0 : PWg l w M d K k pc' ls (vJ n :: st) G Φ) : PWg l w M d K k pc ls st G Φ := by
  intro p e s m args below meth c H locs lsr hC hW hO hS hL
  rcases hd with ⟨k', hd, rfl, rfl⟩ | ⟨idx, hd, hw, hn, rfl⟩
  · have h := K0 p e s m args below meth c H locs lsr hC hW ⟨hO.1, memC (show okv _ (vJ _) from ⟨by omega, by have := k'.isLt; omega⟩) hO.2.1, hO.2.2⟩ hS hL
    exact lv_lconst (v := Int64.ofInt ((k' : Nat) : Int)) hC.1 hC.2.1 hd rfl h
  · have h := K0 p e s m args below meth c H locs lsr hC hW ⟨hO.1, memC (show okv _ (vJ n) from hn) hO.2.1, hO.2.2⟩ hS hL
    exact lv_ldc2 hC.1 hC.2.1 hC.2.2.2.2.1 (hC.2.2.2.2.2.1 _ hw) hd h
theorem pw_lload {i : Nat} {a : Int} (hd : RLL M pc i pc') (hl : ls[i]? = some (some (vJ a))) (K0 : PWg l w M d K k pc' ls (vJ a :: st) G Φ) : PWg l w M d K k pc ls st G Φ := by
  intro p e s m args below meth c H locs lsr hC hW hO hS hL
  have h := K0 p e s m args below meth c H locs lsr hC hW ⟨hO.1, memC (hO.2.2 _ (List.mem_of_getElem? hl)) hO.2.1, hO.2.2⟩ hS hL
  rcases hd with ⟨k', hd, hk, rfl⟩ | ⟨hd, rfl⟩
  · exact lv_lload_n hC.1 hC.2.1 hd hk (hL.2.2 _ _ hl) h
  · exact lv_lload hC.1 hC.2.1 hd (hL.2.2 _ _ hl) h
theorem pw_lstore {i : Nat} {a : Int} {ls' : List (Option PV)} (hd : RLT M pc i pc') (hj : jOK ls i = true) (hl : (ls.set i (some (vJ a))).set (i + 1) none = ls') (K0 : PWg l w M d K k pc' ls' st G Φ) : PWg l w M d K k pc ls (vJ a :: st) G Φ := by
  subst hl
  intro p e s m args below meth c H locs lsr hC hW hO hS hL
  obtain ⟨hi, hd⟩ := hd
  have hm : ∀ v, some v ∈ (ls.set i (some (vJ a))).set (i + 1) none → okv w.1.2 v := fun v hv => by
    rcases List.mem_or_eq_of_mem_set hv with hv | hv
    · exact memS (hO.2.1 _ List.mem_cons_self) hO.2.2 v hv
    · cases hv
  have h := fun (lsr' : Array Slot) (hL' : lv_has lsr' M.2.2.1 ((i, rvv w (vJ a)) :: (prs w ls).filter (fun q => !(q.1 == i) && (!(q.1 == i + 1) && !(q.1 + 1 == i && q.2.category == 2))))) => K0 p e s m args below meth c H locs lsr' hC hW ⟨hO.1, fun v hv => hO.2.1 v (List.mem_cons_of_mem _ hv), hm⟩ hS (Lr.storedL hj hL')
  rcases hd with ⟨k', hd, hk, rfl⟩ | ⟨hd, rfl⟩
  · exact lv_lstore_n hC.1 hC.2.1 hd hk hL.has hi rfl h
  · exact lv_lstore hC.1 hC.2.1 hd hL.has hi rfl h
theorem pw_gs190 (hd : RGS M pc "ABOVE" pc') (K0 : PWg l w M d K k pc' ls (vR 190 0 :: st) G Φ) : PWg l w M d K k pc ls st G Φ := by
  obtain ⟨idx, hd, hlk, rfl⟩ := hd
  intro p e s m args below meth c H locs lsr hC hW hO hS hL
  have h := K0 p e s m args below meth c H locs lsr hC hW ⟨hO.1, memC (show okv _ (vR 190 0) from Or.inr (Or.inr ⟨by decide, by decide, rfl⟩)) hO.2.1, hO.2.2⟩ hS hL
  exact va_gets hC.1 hC.2.1 hC.2.2.2.2.2.2.2.2.2.2.1 hS hC.2.2.2.2.1 (hC.2.2.2.2.2.1 _ hlk) (fun _ h => h) hd h
theorem pw_gs191 (hd : RGS M pc "BODIES" pc') (K0 : PWg l w M d K k pc' ls (vR 191 0 :: st) G Φ) : PWg l w M d K k pc ls st G Φ := by
  obtain ⟨idx, hd, hlk, rfl⟩ := hd
  intro p e s m args below meth c H locs lsr hC hW hO hS hL
  have h := K0 p e s m args below meth c H locs lsr hC hW ⟨hO.1, memC (show okv _ (vR 191 0) from Or.inr (Or.inr ⟨by decide, by decide, rfl⟩)) hO.2.1, hO.2.2⟩ hS hL
  exact va_gets hC.1 hC.2.1 hC.2.2.2.2.2.2.2.2.2.2.2.2.1 hS hC.2.2.2.2.1 (hC.2.2.2.2.2.1 _ hlk) (fun _ h => h) hd h
theorem abF_in : ∀ j : Nat, j < 8 → iR (abF j) := by
  intro j hj
  have : ∀ j : Nat, j < 8 → -2147483648 ≤ abF j ∧ abF j < 2147483648 := by decide +kernel
  exact this j hj
theorem boF_in : ∀ j : Nat, j < 24 → iR (boF j) := by
  intro j hj
  have : ∀ j : Nat, j < 24 → -2147483648 ≤ boF j ∧ boF j < 2147483648 := by decide +kernel
  exact this j hj
theorem pw_tab190 {i : Int} (hd : RW M pc .iaload pc' 1) (h0 : 0 ≤ i) (h1 : i < 8) (K0 : PWg l w M d K k pc' ls (vI (abF i) :: st) G Φ) : PWg l w M d K k pc ls (vI i :: vR 190 0 :: st) G Φ := by
  obtain ⟨hd, rfl⟩ := hd
  intro p e s m args below meth c H locs lsr hC hW hO hS hL
  obtain ⟨g1, g2⟩ := of_in (n := 8) h0 h1 (by decide)
  have hok : iR (abF i) := by
    have := abF_in i.toNat (by omega)
    rwa [Int.toNat_of_nonneg h0] at this
  have h := K0 p e s m args below meth c H locs lsr hC hW ⟨hO.1, mem2 hok hO.2.1, hO.2.2⟩ hS hL
  exact va_ti hC.1 hC.2.1 hC.2.2.2.2.2.2.2.2.2.2.2.1 hS g1 (v := .int (Int32.ofInt (abF i))) (by rw [g2]; rfl) hd h
theorem pw_tab191 {i : Int} (hd : RW M pc .iaload pc' 1) (h0 : 0 ≤ i) (h1 : i < 24) (K0 : PWg l w M d K k pc' ls (vI (boF i) :: st) G Φ) : PWg l w M d K k pc ls (vI i :: vR 191 0 :: st) G Φ := by
  obtain ⟨hd, rfl⟩ := hd
  intro p e s m args below meth c H locs lsr hC hW hO hS hL
  obtain ⟨g1, g2⟩ := of_in (n := 24) h0 h1 (by decide)
  have hok : iR (boF i) := by
    have := boF_in i.toNat (by omega)
    rwa [Int.toNat_of_nonneg h0] at this
  have h := K0 p e s m args below meth c H locs lsr hC hW ⟨hO.1, mem2 hok hO.2.1, hO.2.2⟩ hS hL
  exact va_ti hC.1 hC.2.1 hC.2.2.2.2.2.2.2.2.2.2.2.2.2.1 hS g1 (v := .int (Int32.ofInt (boF i))) (by rw [g2]; rfl) hd h
theorem aSt_ne : ∀ c, c < 273 → aSt c ≠ some 3 := by decide +kernel
theorem fSt_ne : ∀ c, c < 13 → ∀ k, k < 110 → fSt c k ≠ some 3 := by decide +kernel
/-- a new person: its row is the next one -/
theorem pw_new (hd : RN M pc pc') (hk : k + 1 ≤ K) (K0 : ∀ w' : Wo, w'.2 = w.2 → w'.1.2 = w.1.2 + 1 → Agr w w' → PWg l w' M d K (k + 1) pc' ls (vR 3 w.1.2 :: st) (newG G w.1.2) Φ) : PWg l w M d K k pc ls st G Φ := by
  obtain ⟨idx, hd, hcl, hins, hini, rfl⟩ := hd
  intro p e s m args below meth c H locs lsr hC hW hO hS hL
  have hts := hC.2.2.2.2.2.1
  have hA : ∀ q, s.heap.size ≤ q → Ab w q := fun q hq => Nat.le_trans hC.2.2.2.2.2.2.2.2.2.1 hq
  refine va_new (ci := 3) (C := RX3) (T := TX3) (N := 12) (fs := (List.range 12).map fun _ => .int 0) hC.1 hC.2.1 hts (cls_ok 3 _ rfl).1 tyX3 tyX3_ok hC.2.2.2.2.1 (hts _ hcl) (hts _ hins) (hts _ hini) hC.2.2.2.2.2.2.2.2.1.1 hW.1 hW.2 hS hA rfl (fun j hj => ?_) (by show k + 1 ≤ K; exact hk) (by show 12 * k + 12 ≤ 12 * K; omega) hd (fun q H1 hP hD hS1 => ?_)
  · have hj' : j = 0 ∨ j = 1 ∨ j = 2 ∨ j = 3 ∨ j = 4 ∨ j = 5 ∨ j = 6 ∨ j = 7 ∨ j = 8 ∨ j = 9 ∨ j = 10 ∨ j = 11 := by omega
    rcases hj' with rfl | rfl | rfl | rfl | rfl | rfl | rfl | rfl | rfl | rfl | rfl | rfl <;> rfl
  · obtain ⟨⟨α, np⟩, rest⟩ := w
    have hAg : Agr ((α, np), rest) (((fun c r => if c = 3 ∧ r = (np : Int) then q else α c r), np + 1), rest) := by
      refine ⟨Nat.le_succ _, fun c r h => ?_⟩
      show (if c = 3 ∧ r = (np : Int) then q else α c r) = α c r
      rw [if_neg]
      rintro ⟨rfl, rfl⟩
      rcases h with ⟨-, -, h⟩ | ⟨h1, h2⟩ | ⟨h, -, -⟩
      · exact absurd h (Int.lt_irrefl _)
      · rw [rw3] at h2; omega
      · omega
    have hlist : wl ((α, np), rest) G ++ [(q, .inr (3, (List.range 12).map fun _ => Value.int 0))] = wl (((fun c r => if c = 3 ∧ r = (np : Int) then q else α c r), np + 1), rest) (newG G np) := by
      unfold wl
      have ecs : cs (np + 1) = cs np ++ [((3, (np : Int)) : PR)] := by
        unfold cs
        rw [List.range_succ, List.map_append, List.append_assoc]
        rfl
      show _ = (cs (np + 1)).map _
      rw [ecs, List.map_append]
      refine congr (congrArg _ ?_) ?_
      · refine List.map_congr_left fun z hz => ?_
        obtain ⟨c', r'⟩ := z
        have hlv : lv np c' r' := cs_lv hz
        have hne : ¬ (c' = 3 ∧ r' = (np : Int)) := by
          rintro ⟨rfl, rfl⟩
          rcases hlv with ⟨-, -, h⟩ | ⟨h1, h2⟩ | ⟨h, -, -⟩
          · exact absurd h (Int.lt_irrefl _)
          · rw [rw3] at h2; omega
          · omega
        show (α c' r', _) = ((if c' = 3 ∧ r' = (np : Int) then q else α c' r'), _)
        rw [if_neg hne]
        refine congrArg (Prod.mk _) ?_
        have hf : ∀ j, fval (newG G np) c' r' j = fval G c' r' j := fun j => by
          unfold fval
          show (if c' = 4 ∧ j = 3 then vQ (gD G 4 r' 3) else match fSt c' j with
            | some c'' => vR c'' 0
            | none => vI (if c' = 3 ∧ r' = (np : Int) then 0 else gF G c' r' j)) = _
          rw [if_neg hne]
          rfl
        have hrv : ∀ v : PV, okv np v → rvv (((fun c r => if c = 3 ∧ r = (np : Int) then q else α c r), np + 1), rest) v = rvv ((α, np), rest) v := fun v hv => rvv_ext hAg hv
        have hc273 : c' < 273 := by
          rcases hlv with ⟨h, -⟩ | ⟨h1, h2⟩ | ⟨-, h, -⟩
          · omega
          · exact rws_lt (by omega)
          · omega
        have har : ∀ i : Int, (aref (newG G np) c' r' i).map (fun z => if z.1 = 3 ∧ z.2 = (np : Int) then q else α z.1 z.2) = (aref G c' r' i).map fun z => α z.1 z.2 := fun i => by
          show (aref G c' r' i).map _ = _
          cases hq : aref G c' r' i with
          | none => rfl
          | some z =>
            show some (if z.1 = 3 ∧ z.2 = (np : Int) then q else α z.1 z.2) = some (α z.1 z.2)
            rw [if_neg]
            rintro ⟨e1, e2⟩
            unfold aref at hq
            cases ha : aSt c' with
            | some c'' =>
              rw [ha] at hq
              cases hq
              exact aSt_ne c' hc273 (by rw [ha]; exact congrArg some e1)
            | none =>
              rw [ha] at hq
              have := hO.1.2.2 c' r' i z hq
              rw [e1, e2] at this
              rcases this with ⟨-, -, h⟩ | ⟨h1, h2⟩ | ⟨h, -, -⟩
              · exact absurd h (Int.lt_irrefl _)
              · rw [rw3] at h2; omega
              · omega
        show entG (shp c') _ (fun j => rvv _ (fval G c' r' j)) _ (fun i : Nat => (aref G c' r' i).map fun z => α z.1 z.2) = entG (shp c') _ (fun j => rvv _ (fval (newG G np) c' r' j)) _ (fun i : Nat => (aref (newG G np) c' r' i).map fun z => if z.1 = 3 ∧ z.2 = (np : Int) then q else α z.1 z.2)
        have e2 : (fun i : Nat => (aref (newG G np) c' r' i).map fun z => if z.1 = 3 ∧ z.2 = (np : Int) then q else α z.1 z.2) = fun i : Nat => (aref G c' r' i).map fun z => α z.1 z.2 := funext fun i => har i
        rw [e2]
        by_cases hc13 : c' < 13
        · obtain ⟨n, hn⟩ : ∃ n, shp c' = (0, n, c') ∧ n ≤ 109 := by
            have : ∀ c, c < 13 → (shp c).1 = 0 ∧ (shp c).2.1 ≤ 109 ∧ (shp c).2.2 = c := by decide +kernel
            obtain ⟨t1, t2, t3⟩ := this c' hc13
            exact ⟨(shp c').2.1, Prod.ext t1 (Prod.ext rfl t3), t2⟩
          rw [hn.1]
          unfold entG
          show Sum.inr _ = Sum.inr _
          refine congrArg Sum.inr (congrArg (Prod.mk _) (List.map_congr_left fun j hj => ?_))
          rw [hf j, hrv _ (okv_fval hO.1 hc13 (by have := List.mem_range.mp hj; omega))]
        · obtain ⟨t, n, a, hsh, ht⟩ : ∃ t n a, shp c' = (t, n, a) ∧ t ≠ 0 := by
            have : ∀ c, c < 273 → 13 ≤ c → (shp c).1 ≠ 0 := by decide +kernel
            exact ⟨(shp c').1, (shp c').2.1, (shp c').2.2, by cases shp c' with | mk a b => rfl, this c' hc273 (by omega)⟩
          rw [hsh]
          cases t with
          | zero => exact absurd rfl ht
          | succ t => rfl
      · show [(q, _)] = [((if (3 : Nat) = 3 ∧ (np : Int) = np then q else α 3 np), _)]
        rw [if_pos ⟨rfl, rfl⟩]
        refine congrArg (fun z => [(q, z)]) ?_
        rw [ent_o sh3]
        refine congrArg (fun z => Sum.inr (3, z)) (List.map_congr_left fun j hj => ?_)
        have hj12 : j < 12 := List.mem_range.mp hj
        have hfs : fSt 3 j = none := by
          have : ∀ j, j < 12 → fSt 3 j = none := by decide +kernel
          exact this j hj12
        have e : fval (newG G np) 3 np j = vI 0 := by
          unfold fval
          rw [if_neg (by omega), hfs]
          show vI (if (3 : Nat) = 3 ∧ (np : Int) = np then 0 else G.1 3 np j) = vI 0
          rw [if_pos ⟨rfl, rfl⟩]
        rw [e]
        rfl
    have hok : okG (np + 1) (newG G np) := by
      refine ⟨fun c r k => ?_, hO.1.2.1, fun c r i z hz => lv_mono (Nat.le_succ _) (hO.1.2.2 c r i z hz)⟩
      show iR (if c = 3 ∧ r = (np : Int) then 0 else G.1 c r k)
      by_cases h : c = 3 ∧ r = (np : Int)
      · rw [if_pos h]; exact iR_0
      · rw [if_neg h]; exact hO.1.1 c r k
    rw [hlist] at hP hD
    have h := K0 (((fun c r => if c = 3 ∧ r = (np : Int) then q else α c r), np + 1), rest) rfl rfl hAg p e s m args below meth c H1 locs lsr (hC.ext rfl hAg) ⟨hP, hD⟩ ⟨hok, memC (show okv (np + 1) (vR 3 np) from Or.inl ⟨rfl, by omega, by omega⟩) fun v hv => okv_mono (Nat.le_succ _) (hO.2.1 v hv), fun v hv => okv_mono (Nat.le_succ _) (hO.2.2 v hv)⟩ hS1 (hL.ext hAg hO.2.2)
    rw [Qcw_ext (w := ((α, np), rest)) (w' := (((fun c r => if c = 3 ∧ r = (np : Int) then q else α c r), np + 1), rest)) rfl] at h
    rw [show 12 * (k + 1) = 12 * k + 12 by omega] at h
    have e1 : (vR 3 (np : Int) :: st).map (rvv (((fun c r => if c = 3 ∧ r = (np : Int) then q else α c r), np + 1), rest)) = Value.ref q :: st.map (rvv ((α, np), rest)) := by
      show Value.ref (if (3 : Nat) = 3 ∧ (np : Int) = np then q else α 3 np) :: _ = _
      rw [if_pos ⟨rfl, rfl⟩, map_ext hAg hO.2.1]
    rw [e1] at h
    exact h
theorem pw_objInit {v : PV} {c0 : Nat} {r0 : Int} (hd : ROI M pc pc') (hc : noJ st = true) (hc8 : st.length ≤ 8) (hv : v = vR c0 r0) (K0 : PWg l w M (d + 1) K k pc' ls st G Φ) : PWg l w M (d + 1) K k pc ls (v :: st) G Φ := by
  subst hv
  obtain ⟨idx, hd, hlk, hins, hcode, rfl⟩ := hd
  intro p e s m args below meth c H locs lsr hC hW hO hS hL
  have hts := hC.2.2.2.2.2.1
  have h := K0 p e s m args below meth c H locs lsr hC hW ⟨hO.1, fun v hv => hO.2.1 v (List.mem_cons_of_mem _ hv), hO.2.2⟩ hS hL
  refine W.objInit hC.1 hC.2.1 hC.2.2.2.2.1 (hts _ hlk) (hts _ hins) (hts _ hcode) rfl (by rw [hC.2.2.2.1]; exact hL.1) rfl hd (by show 1 ≤ d + 1; omega) ?_ h
  have hr := lv_room (m := m) (pc := pc) (ls := lsr) (rest := st.map (rvv w)) (st := st.map (rvv w)) (by rw [noJ_sum w st hc]; exact hc8)
  show 2 * (F0 m pc lsr _).monitorRoom + _ + 12 ≤ 48 * (d + 1)
  rw [noJ_sum w st hc]
  have hz : (F0 m pc lsr (Value.ref (w.1.1 c0 r0) :: st.map (rvv w))).monitorRoom = (F0 m pc lsr (st.map (rvv w))).monitorRoom := rfl
  rw [noJ_sum w st hc] at hr
  show 2 * (F0 m pc lsr (Value.ref (w.1.1 c0 r0) :: st.map (rvv w))).monitorRoom + st.length + 12 ≤ 48 * (d + 1)
  rw [hz]
  omega
end SPECIAL
