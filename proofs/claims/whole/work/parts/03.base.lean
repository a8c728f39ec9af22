/-! A pure picture of the machine: ints are Int, cells have a kind and a row, a heap is functions. -/
abbrev PR : Type := Nat × Int
abbrev PV : Type := Int ⊕ (Option PR ⊕ Int)
abbrev vI (n : Int) : PV := Sum.inl n
abbrev vQ (q : Option PR) : PV := Sum.inr (Sum.inl q)
abbrev vR (c : Nat) (r : Int) : PV := Sum.inr (Sum.inl (some (c, r)))
abbrev vN : PV := Sum.inr (Sum.inl none)
abbrev vJ (n : Int) : PV := Sum.inr (Sum.inr n)
/-- ints of objects' fields (kind, row, field), ints of arrays (kind, row, place), references that change -/
abbrev PH : Type := (Nat → Int → Nat → Int) × (Nat → Int → Int → Int) × (Nat → Int → Int → Option PR)
def gF (G : PH) (c : Nat) (r : Int) (k : Nat) : Int := G.1 c r k
def gA (G : PH) (c : Nat) (r i : Int) : Int := G.2.1 c r i
def gD (G : PH) (c : Nat) (r i : Int) : Option PR := G.2.2 c r i
def sF (G : PH) (c : Nat) (r : Int) (k : Nat) (v : Int) : PH := (fun c' r' k' => if c' = c ∧ k' = k ∧ r' = r then v else G.1 c' r' k', G.2)
def sA (G : PH) (c : Nat) (r i v : Int) : PH := (G.1, fun c' r' i' => if c' = c ∧ r' = r ∧ i' = i then v else G.2.1 c' r' i', G.2.2)
def sD (G : PH) (c : Nat) (r i : Int) (v : Option PR) : PH := (G.1, G.2.1, fun c' r' i' => if c' = c ∧ r' = r ∧ i' = i then v else G.2.2 c' r' i')
/-- a whole array's contents -/
def uA (G : PH) (c : Nat) (r : Int) (f : Int → Int) : PH := (G.1, fun c' r' => if c' = c ∧ r' = r then f else G.2.1 c' r', G.2.2)
def upA (f : Int → Int) (i v : Int) : Int → Int := fun j => if j = i then v else f j
def iR (n : Int) : Prop := -2147483648 ≤ n ∧ n < 2147483648
def wr (n : Int) : Int := Int.bmod n 4294967296
theorem wr_in (n : Int) : iR (wr n) := ⟨by have := Int.le_bmod (x := n) (m := 4294967296) (by decide); unfold wr; omega, by have := Int.bmod_lt (x := n) (m := 4294967296) (by decide); unfold wr; omega⟩
theorem wr_id {n : Int} (h : -2147483648 ≤ n ∧ n < 2147483648) : wr n = n := by unfold wr; exact Int.bmod_eq_of_le (by omega) (by omega)
/-- a cell that there is: of a kind, a row -/
def lv (np : Nat) (c : Nat) (r : Int) : Prop := (c = 3 ∧ 0 ≤ r ∧ r < np) ∨ (0 ≤ r ∧ r < rws c) ∨ (190 ≤ c ∧ c < 194 ∧ r = 0)
theorem rws_lt {c : Nat} (h : rws c ≠ 0) : c < nKind := by
  rcases Nat.lt_or_ge c nKind with q | q
  · exact q
  · exfalso
    apply h
    unfold rws
    exact if_neg (Nat.not_lt.mpr q)
theorem lv_of {np c n : Nat} {r : Int} (h : rws c = n) (h0 : 0 ≤ r) (h1 : r < n) : lv np c r := Or.inr (Or.inl ⟨h0, by rw [h]; exact h1⟩)
def cs (np : Nat) : List PR := ((List.range nKind).flatMap fun c => (List.range (rws c)).map fun (i : Nat) => ((c, (i : Int)) : PR)) ++ (List.range np).map fun (i : Nat) => ((3, (i : Int)) : PR)
theorem cs_mem {np c : Nat} {r : Int} (h : lv np c r) (ht : (shp c).1 ≤ 1) : (c, r) ∈ cs np := by
  rcases h with ⟨rfl, h0, h1⟩ | ⟨h0, h1⟩ | ⟨h0, h1, -⟩
  · refine List.mem_append_right _ (List.mem_map.mpr ⟨r.toNat, List.mem_range.mpr (by omega), ?_⟩)
    rw [Int.toNat_of_nonneg h0]
  · refine List.mem_append_left _ (List.mem_flatMap.mpr ⟨c, List.mem_range.mpr (rws_lt (by omega)), List.mem_map.mpr ⟨r.toNat, List.mem_range.mpr (by omega), ?_⟩⟩)
    rw [Int.toNat_of_nonneg h0]
  · exfalso
    rcases (show c = 190 ∨ c = 191 ∨ c = 192 ∨ c = 193 by omega) with rfl | rfl | rfl | rfl
    · rw [sh190] at ht; exact absurd ht (by decide)
    · rw [sh191] at ht; exact absurd ht (by decide)
    · exact absurd ht (by decide +kernel)
    · exact absurd ht (by decide +kernel)
theorem cs_lv {np c : Nat} {r : Int} (h : (c, r) ∈ cs np) : lv np c r := by
  rcases List.mem_append.mp h with h | h
  · obtain ⟨c', hc, h⟩ := List.mem_flatMap.mp h
    obtain ⟨i, hi, e⟩ := List.mem_map.mp h
    cases e
    exact Or.inr (Or.inl ⟨by omega, by have := List.mem_range.mp hi; omega⟩)
  · obtain ⟨i, hi, e⟩ := List.mem_map.mp h
    cases e
    exact Or.inl ⟨rfl, by omega, by have := List.mem_range.mp hi; omega⟩
/-- a field's value -/
def fval (G : PH) (c : Nat) (r : Int) (k : Nat) : PV := if c = 4 ∧ k = 3 then vQ (gD G 4 r 3) else match fSt c k with
  | some c' => vR c' 0
  | none => vI (gF G c r k)
/-- a reference in an array -/
def aref (G : PH) (c : Nat) (r i : Int) : Option PR := match aSt c with
  | some c' => some (c', i)
  | none => gD G c r i
/-- where the cells lie, how many persons there are; the numbers of the classes and array classes; the first address of ours -/
abbrev Wo : Type := ((Nat → Int → Nat) × Nat) × va_G × (Nat → ClassId) × Nat
def rvv (w : Wo) : PV → Value
  | .inl n => .int (Int32.ofInt n)
  | .inr (.inl none) => .null
  | .inr (.inl (some q)) => .ref (w.1.1 q.1 q.2)
  | .inr (.inr n) => .long (Int64.ofInt n)
def entG (z : Nat × Nat × Nat) (cA : Nat → ClassId) (fv : Nat → Value) (ga : Nat → Int32) (ar : Nat → Option Nat) : va_E := match z with
  | (0, n, ci) => .inr (ci, (List.range n).map fv)
  | (_, n, t) => if t < 4 then .inl (cA t, n, .inl ga) else .inl (cA t, n, .inr (.inr (.inr (.inr ar))))
def ent (w : Wo) (G : PH) (c : Nat) (r : Int) : va_E := entG (shp c) w.2.2.1 (fun k => rvv w (fval G c r k)) (fun i : Nat => Int32.ofInt (gA G c r i)) (fun i : Nat => (aref G c r i).map fun q => w.1.1 q.1 q.2)
theorem ent_o {w : Wo} {G : PH} {c : Nat} {r : Int} {n ci : Nat} (h : shp c = (0, n, ci)) : ent w G c r = .inr (ci, (List.range n).map fun k => rvv w (fval G c r k)) := by unfold ent entG; rw [h]; rfl
theorem ent_i {w : Wo} {G : PH} {c : Nat} {r : Int} {n t : Nat} (h : shp c = (1, n, t)) (ht : t < 4) : ent w G c r = .inl (w.2.2.1 t, n, .inl fun i => Int32.ofInt (gA G c r i)) := by unfold ent entG; rw [h]; exact if_pos ht
theorem ent_q {w : Wo} {G : PH} {c : Nat} {r : Int} {n t : Nat} (h : shp c = (1, n, t)) (ht : ¬ t < 4) : ent w G c r = .inl (w.2.2.1 t, n, .inr (.inr (.inr (.inr fun i => (aref G c r i).map fun q => w.1.1 q.1 q.2)))) := by unfold ent entG; rw [h]; exact if_neg ht
def wl (w : Wo) (G : PH) : va_W := (cs (w.1.2)).map fun q => (w.1.1 q.1 q.2, ent w G q.1 q.2)
def Ab (w : Wo) : Nat → Prop := fun q => w.2.2.2 ≤ q
def Wd (w : Wo) (G : PH) (H : Heap) : Prop := va_P w.2.1 classes (wl w G) H ∧ va_D (Ab w) (wl w G)
theorem wl_at {w : Wo} {G : PH} {c : Nat} {r : Int} (h : (c, r) ∈ cs (w.1.2)) : ∃ k : Nat, (cs (w.1.2))[k]? = some (c, r) ∧ (wl w G)[k]? = some (w.1.1 c r, ent w G c r) := by
  obtain ⟨k, hk⟩ := List.getElem?_of_mem h
  exact ⟨k, hk, by unfold wl; rw [List.getElem?_map, hk]; rfl⟩
theorem wl_set {w : Wo} {G G' : PH} {c : Nat} {r : Int} {k : Nat} {e : va_E} (hD : va_D (Ab w) (wl w G)) (hk : (cs (w.1.2))[k]? = some (c, r)) (he : ent w G' c r = e) (ho : ∀ (c' : Nat) (r' : Int), ¬ (c' = c ∧ r' = r) → ent w G' c' r' = ent w G c' r') : (wl w G).set k (w.1.1 c r, e) = wl w G' := by
  apply List.ext_getElem?
  intro j
  have hkl : k < (wl w G).length := by unfold wl; rw [List.length_map]; exact (List.getElem?_eq_some_iff.mp hk).1
  by_cases hj : j = k
  · subst hj
    rw [List.getElem?_set_self hkl]
    unfold wl
    rw [List.getElem?_map, hk]
    show some (w.1.1 c r, e) = some (w.1.1 c r, ent w G' c r)
    rw [he]
  · rw [List.getElem?_set_ne (Ne.symm hj)]
    unfold wl
    rw [List.getElem?_map, List.getElem?_map]
    cases hq : (cs (w.1.2))[j]? with
    | none => simp only [Option.map_none]
    | some q =>
      obtain ⟨c', r'⟩ := q
      show some (w.1.1 c' r', ent w G c' r') = some (w.1.1 c' r', ent w G' c' r')
      rw [ho c' r' fun hcr => hj (hD.1 j k (w.1.1 c' r', ent w G c' r') (w.1.1 c r, ent w G c r) (by unfold wl; rw [List.getElem?_map, hq]; rfl) (by unfold wl; rw [List.getElem?_map, hk]; rfl) (by rw [hcr.1, hcr.2]))]
/-! reads of writes -/
theorem gF_sF (G : PH) (c : Nat) (r : Int) (k : Nat) (v : Int) (c' : Nat) (r' : Int) (k' : Nat) : gF (sF G c r k v) c' r' k' = if c' = c ∧ k' = k ∧ r' = r then v else gF G c' r' k' := rfl
theorem gA_sA (G : PH) (c : Nat) (r i v : Int) (c' : Nat) (r' i' : Int) : gA (sA G c r i v) c' r' i' = if c' = c ∧ r' = r ∧ i' = i then v else gA G c' r' i' := rfl
theorem gD_sD (G : PH) (c : Nat) (r i : Int) (v : Option PR) (c' : Nat) (r' i' : Int) : gD (sD G c r i v) c' r' i' = if c' = c ∧ r' = r ∧ i' = i then v else gD G c' r' i' := rfl
theorem gA_uA (G : PH) (c : Nat) (r : Int) (f : Int → Int) (c' : Nat) (r' i' : Int) : gA (uA G c r f) c' r' i' = if c' = c ∧ r' = r then f i' else gA G c' r' i' := by
  unfold gA uA
  by_cases h : c' = c ∧ r' = r
  · simp [h]
  · simp [h]
theorem gA_sF (G : PH) (c : Nat) (r : Int) (k : Nat) (v : Int) (c' : Nat) (r' i' : Int) : gA (sF G c r k v) c' r' i' = gA G c' r' i' := rfl
theorem gD_sF (G : PH) (c : Nat) (r : Int) (k : Nat) (v : Int) (c' : Nat) (r' i' : Int) : gD (sF G c r k v) c' r' i' = gD G c' r' i' := rfl
theorem gF_sA (G : PH) (c : Nat) (r i v : Int) (c' : Nat) (r' : Int) (k' : Nat) : gF (sA G c r i v) c' r' k' = gF G c' r' k' := rfl
theorem gD_sA (G : PH) (c : Nat) (r i v : Int) (c' : Nat) (r' i' : Int) : gD (sA G c r i v) c' r' i' = gD G c' r' i' := rfl
theorem gF_uA (G : PH) (c : Nat) (r : Int) (f : Int → Int) (c' : Nat) (r' : Int) (k' : Nat) : gF (uA G c r f) c' r' k' = gF G c' r' k' := rfl
theorem gD_uA (G : PH) (c : Nat) (r : Int) (f : Int → Int) (c' : Nat) (r' i' : Int) : gD (uA G c r f) c' r' i' = gD G c' r' i' := rfl
theorem gF_sD (G : PH) (c : Nat) (r i : Int) (v : Option PR) (c' : Nat) (r' : Int) (k' : Nat) : gF (sD G c r i v) c' r' k' = gF G c' r' k' := rfl
theorem gA_sD (G : PH) (c : Nat) (r i : Int) (v : Option PR) (c' : Nat) (r' i' : Int) : gA (sD G c r i v) c' r' i' = gA G c' r' i' := rfl
theorem uA_self (G : PH) (c : Nat) (r : Int) : uA G c r (fun i => gA G c r i) = G := by
  unfold uA gA
  refine Prod.ext rfl (Prod.ext ?_ rfl)
  funext c' r'
  show (if c' = c ∧ r' = r then (fun i => G.2.1 c r i) else G.2.1 c' r') = G.2.1 c' r'
  by_cases h : c' = c ∧ r' = r
  · rw [if_pos h, h.1, h.2]
  · rw [if_neg h]
theorem sA_uA (G : PH) (c : Nat) (r i v : Int) (f : Int → Int) : sA (uA G c r f) c r i v = uA G c r (upA f i v) := by
  unfold sA uA upA
  refine Prod.ext rfl (Prod.ext ?_ rfl)
  funext c' r' i'
  show (if c' = c ∧ r' = r ∧ i' = i then v else (if c' = c ∧ r' = r then f else G.2.1 c' r') i') = (if c' = c ∧ r' = r then (fun j => if j = i then v else f j) else G.2.1 c' r') i'
  by_cases h : c' = c ∧ r' = r
  · rw [if_pos h, if_pos h]
    by_cases hi : i' = i
    · rw [if_pos ⟨h.1, h.2, hi⟩, if_pos hi]
    · rw [if_neg (fun q => hi q.2.2), if_neg hi]
  · rw [if_neg h, if_neg (fun q => h ⟨q.1, q.2.1⟩), if_neg h]
theorem sA_eq (G : PH) (c : Nat) (r i v : Int) : sA G c r i v = uA G c r (upA (fun j => gA G c r j) i v) := by
  conv => lhs; rw [← uA_self G c r]
  exact sA_uA G c r i v _
theorem uA_uA (G : PH) (c : Nat) (r : Int) (f g : Int → Int) : uA (uA G c r f) c r g = uA G c r g := by
  unfold uA
  refine Prod.ext rfl (Prod.ext ?_ rfl)
  funext c' r'
  show (if c' = c ∧ r' = r then g else if c' = c ∧ r' = r then f else G.2.1 c' r') = (if c' = c ∧ r' = r then g else G.2.1 c' r')
  by_cases h : c' = c ∧ r' = r
  · rw [if_pos h, if_pos h]
  · rw [if_neg h, if_neg h, if_neg h]
theorem PH_ext {G G' : PH} (h1 : ∀ c r k, gF G c r k = gF G' c r k) (h2 : ∀ c r i, gA G c r i = gA G' c r i) (h3 : ∀ c r i, gD G c r i = gD G' c r i) : G = G' :=
  Prod.ext (funext fun c => funext fun r => funext fun k => h1 c r k) (Prod.ext (funext fun c => funext fun r => funext fun i => h2 c r i) (funext fun c => funext fun r => funext fun i => h3 c r i))
theorem gF_same (G : PH) (c : Nat) (r : Int) (k : Nat) (v : Int) : gF (sF G c r k v) c r k = v := if_pos ⟨rfl, rfl, rfl⟩
theorem gA_same (G : PH) (c : Nat) (r i v : Int) : gA (sA G c r i v) c r i = v := if_pos ⟨rfl, rfl, rfl⟩
/-- 1 if so, else 0 -/
noncomputable def b2i (c : Prop) : Int := @ite Int c (Classical.propDecidable c) 1 0
theorem b2i_t {c : Prop} (h : c) : b2i c = 1 := if_pos h
theorem b2i_f {c : Prop} (h : ¬ c) : b2i c = 0 := if_neg h
theorem b2i_01 (c : Prop) : b2i c = 0 ∨ b2i c = 1 := by
  rcases Classical.em c with h | h
  · exact Or.inr (b2i_t h)
  · exact Or.inl (b2i_f h)
theorem b2i_eq0 {c : Prop} : b2i c = 0 ↔ ¬ c := ⟨fun h q => by rw [b2i_t q] at h; omega, b2i_f⟩
theorem b2i_eq1 {c : Prop} : b2i c = 1 ↔ c := ⟨fun h => Classical.byContradiction fun q => by rw [b2i_f q] at h; omega, b2i_t⟩
theorem b2i_congr {a b : Prop} (h : a ↔ b) : b2i a = b2i b := by rw [propext h]
/-- what an answer puts on the stack -/
def pushR (r : Option PV) (st : List PV) : List PV := match r with
  | none => st
  | some v => v :: st
/-- how many of 0 .. n - 1 are so -/
noncomputable def cntN (p : Int → Prop) : Nat → Int
  | 0 => 0
  | n + 1 => cntN p n + b2i (p n)
noncomputable def cnt (p : Int → Prop) (n : Int) : Int := cntN p n.toNat
theorem cnt_0 (p : Int → Prop) : cnt p 0 = 0 := rfl
theorem cnt_s (p : Int → Prop) {n : Int} (h : 0 ≤ n) : cnt p (n + 1) = cnt p n + b2i (p n) := by
  unfold cnt
  rw [show (n + 1).toNat = n.toNat + 1 by omega, cntN, Int.toNat_of_nonneg h]
theorem cnt_t {p : Int → Prop} {n : Int} (h : 0 ≤ n) (hp : p n) : cnt p (n + 1) = cnt p n + 1 := by rw [cnt_s p h, b2i_t hp]
theorem cnt_f {p : Int → Prop} {n : Int} (h : 0 ≤ n) (hp : ¬ p n) : cnt p (n + 1) = cnt p n := by rw [cnt_s p h, b2i_f hp]; omega
theorem cnt_le (p : Int → Prop) {n : Int} (h : 0 ≤ n) : 0 ≤ cnt p n ∧ cnt p n ≤ n := by
  obtain ⟨k, rfl⟩ : ∃ k : Nat, n = k := ⟨n.toNat, by omega⟩
  induction k with
  | zero => exact ⟨Int.le_refl 0, Int.le_refl 0⟩
  | succ k ih =>
    have h1 := ih (by omega)
    have h2 := b2i_01 (p k)
    rw [show ((k + 1 : Nat) : Int) = (k : Int) + 1 by omega, cnt_s p (by omega)]
    omega
theorem cnt_congr {p q : Int → Prop} {n : Int} (h : ∀ i, 0 ≤ i → i < n → (p i ↔ q i)) : cnt p n = cnt q n := by
  unfold cnt
  have : ∀ k : Nat, (k : Int) ≤ n → cntN p k = cntN q k := by
    intro k
    induction k with
    | zero => intro _; rfl
    | succ k ih =>
      intro hk
      rw [cntN, cntN, ih (by omega), b2i_congr (h k (by omega) (by omega))]
  rcases Int.lt_or_le n 0 with q0 | q0
  · rw [show n.toNat = 0 by omega]; rfl
  · exact this _ (by omega)
