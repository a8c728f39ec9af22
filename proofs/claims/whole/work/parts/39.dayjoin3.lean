/-! the class's cells and the reference's, apart -/
def mdl (G : PH) : PH := (fun c r k => bif Nat.beq c 12 then G.1 c r k else 0, fun c r => bif Nat.ble 190 c then G.2.1 c r else fun _ => 0, fun _ _ _ => none)
def cls (G : PH) : PH := (fun c r k => bif Nat.beq c 12 then 0 else G.1 c r k, fun c r => bif Nat.ble 190 c then fun _ => 0 else G.2.1 c r, G.2.2)
theorem mdl_sF {X : PH} {c k : Nat} {r v : Int} (h : c ≠ 12) : mdl (sF X c r k v) = mdl X := by
  refine Prod.ext (funext fun c' => funext fun r' => funext fun k' => ?_) rfl
  show (bif Nat.beq c' 12 then gF (sF X c r k v) c' r' k' else 0) = bif Nat.beq c' 12 then gF X c' r' k' else 0
  cases e : Nat.beq c' 12
  · rfl
  · have e1 := Nat.eq_of_beq_eq_true e
    show gF (sF X c r k v) c' r' k' = gF X c' r' k'
    rw [gF_sF, if_neg (fun q => h (by omega))]
theorem mdl_sA {X : PH} {c : Nat} {r i v : Int} (h : c < 190) : mdl (sA X c r i v) = mdl X := by
  refine Prod.ext rfl (Prod.ext (funext fun c' => funext fun r' => ?_) rfl)
  show (bif Nat.ble 190 c' then gA (sA X c r i v) c' r' else fun _ => 0) = bif Nat.ble 190 c' then gA X c' r' else fun _ => 0
  cases e : Nat.ble 190 c'
  · rfl
  · have e1 := Nat.le_of_ble_eq_true e
    funext j
    show gA (sA X c r i v) c' r' j = gA X c' r' j
    rw [gA_sA, if_neg (fun q => by omega)]
theorem mdl_uA {X : PH} {c : Nat} {r : Int} {f : Int → Int} (h : c < 190) : mdl (uA X c r f) = mdl X := by
  refine Prod.ext rfl (Prod.ext (funext fun c' => funext fun r' => ?_) rfl)
  show (bif Nat.ble 190 c' then gA (uA X c r f) c' r' else fun _ => 0) = bif Nat.ble 190 c' then gA X c' r' else fun _ => 0
  cases e : Nat.ble 190 c'
  · rfl
  · have e1 := Nat.le_of_ble_eq_true e
    funext j
    show gA (uA X c r f) c' r' j = gA X c' r' j
    rw [gA_uA, if_neg (fun q => by omega)]
theorem cls_sF {X : PH} {k : Nat} {r v : Int} : cls (sF X 12 r k v) = cls X := by
  refine Prod.ext (funext fun c' => funext fun r' => funext fun k' => ?_) rfl
  show (bif Nat.beq c' 12 then 0 else gF (sF X 12 r k v) c' r' k') = bif Nat.beq c' 12 then 0 else gF X c' r' k'
  cases e : Nat.beq c' 12
  · have e1 := Nat.ne_of_beq_eq_false e
    show gF (sF X 12 r k v) c' r' k' = gF X c' r' k'
    rw [gF_sF, if_neg (fun q => e1 q.1)]
  · rfl
theorem cls_sA {X : PH} {c : Nat} {r i v : Int} (h : 190 ≤ c) : cls (sA X c r i v) = cls X := by
  refine Prod.ext rfl (Prod.ext (funext fun c' => funext fun r' => ?_) rfl)
  show (bif Nat.ble 190 c' then (fun _ => 0) else gA (sA X c r i v) c' r') = bif Nat.ble 190 c' then (fun _ => 0) else gA X c' r'
  cases e : Nat.ble 190 c'
  · funext j
    show gA (sA X c r i v) c' r' j = gA X c' r' j
    rw [gA_sA, if_neg (fun q => by have := Nat.ble_eq_true_of_le (show 190 ≤ c' by omega); rw [e] at this; cases this)]
  · rfl
theorem cls_uA {X : PH} {c : Nat} {r : Int} {f : Int → Int} (h : 190 ≤ c) : cls (uA X c r f) = cls X := by
  refine Prod.ext rfl (Prod.ext (funext fun c' => funext fun r' => ?_) rfl)
  show (bif Nat.ble 190 c' then (fun _ => 0) else gA (uA X c r f) c' r') = bif Nat.ble 190 c' then (fun _ => 0) else gA X c' r'
  cases e : Nat.ble 190 c'
  · funext j
    show gA (uA X c r f) c' r' j = gA X c' r' j
    rw [gA_uA, if_neg (fun q => by have := Nat.ble_eq_true_of_le (show 190 ≤ c' by omega); rw [e] at this; cases this)]
  · rfl
theorem Inv_mdl {np : Nat} {X Y : PH} : Inv np X Y ↔ Inv np X (mdl Y) := Iff.rfl
theorem Inv_cls {np : Nat} {X Y : PH} : Inv np X Y ↔ Inv np (cls X) Y := Iff.rfl
theorem mdl_arv (X : PH) (i : Int) : mdl (arvC X i) = mdl X := by
  unfold arvC
  repeat' split
  all_goals simp (disch := decide) only [mdl_sF, mdl_sA, mdl_uA]
theorem mdl_wor (X : PH) (i : Int) : mdl (worC X i) = mdl X := by
  unfold worC
  repeat' split
  all_goals simp (disch := decide) only [mdl_sF, mdl_sA, mdl_uA]
theorem cls_arv (X : PH) (i : Int) : cls (arvM X i) = cls X := by
  unfold arvM
  repeat' split
  all_goals simp (disch := decide) only [cls_sF, cls_sA, cls_uA]
theorem cls_wor (X : PH) (i : Int) : cls (worM X i) = cls X := by
  unfold worM
  repeat' split
  all_goals simp (disch := decide) only [cls_sF, cls_sA, cls_uA]
theorem iter_same {f : Int → PH → PH} {m : PH → PH} (h : ∀ i X, m (f i X) = m X) (n : Int) (X : PH) : m (iterI f n X) = m X := by
  unfold iterI
  induction n.toNat with
  | zero => rfl
  | succ k ih => exact (h _ _).trans ih
theorem mdl_days (X : PH) (n : Int) : mdl (daysC X n) = mdl X :=
  iter_same (m := mdl) (fun _ Z => (iter_same (m := mdl) (fun i W => mdl_wor W i) _ _).trans ((iter_same (m := mdl) (fun i W => mdl_arv W i) _ _).trans (mdl_sF (by decide)))) n X
theorem cls_days (X : PH) (n : Int) : cls (daysM X n) = cls X :=
  iter_same (m := cls) (fun _ Z => (iter_same (m := cls) (fun i W => cls_wor W i) _ _).trans ((iter_same (m := cls) (fun i W => cls_arv W i) _ _).trans cls_sF)) n X
theorem MR_of {np : Nat} {X Y : PH} (h : Inv np X Y) : MR Y := by
  have hc := CR_of h
  have e1 : (gF Y 12 0 17) = (gF X 1 0 1) := h.2.1.1.2.2
  have e2 : (gF Y 12 0 0) = (gF X 1 0 2) := h.2.1.2.1.1
  have e3 : (gF Y 12 0 22) = (gF X 1 0 3) := h.2.2.1.1.1
  refine ⟨by rw [e1]; exact hc.1, by rw [e3]; exact hc.2.2.1, by rw [e2]; exact hc.2.2.2.2.1, fun i a b => ?_⟩
  have q := h.2.1.2.2.2 i a (by rw [← e1]; exact b)
  have r := hc.2.2.2.2.2 i a (by rw [← e1]; exact b)
  have e := q.2.2.2.2.2.2.2.1.1
  rw [e]
  exact r
theorem days_room {np : Nat} {X Y : PH} (h : Inv np X Y) {n : Int} : (gF Y 12 0 0) + n ≤ 600 → ∀ k i, 0 ≤ k → k < n → 0 ≤ i → i < (gF Y 12 0 17) → roomM (arvsM (nextM (daysM Y k)) i) i := fun hd k i a b x y => by
  have e1 : (gF Y 12 0 17) = (gF X 1 0 1) := h.2.1.1.2.2
  have e2 : (gF Y 12 0 0) = (gF X 1 0 2) := h.2.1.2.1.1
  have q := days_step h a (by omega)
  have r := days_ok a (CR_of h) (by omega)
  exact day_room q (by rw [r.2.2]; omega) x (by rw [r.2.1]; omega)
set_option maxRecDepth 10000 in
theorem call_days {l : Launch} {w : Wo} {d : Nat} {G : PH} (hI : Inv w.1.2 G G) {n : Int} : CallOk l w d M_X11_days M_X12_days [some (vR 11 (0)), some (vI (n))] [some (vR 12 (0)), some (vI (n)), none, none, none] G := by
  unfold CallOk CallPhi
  have hG : Inv w.1.2 G (daysC G n) := Inv_mdl.mpr (by rw [mdl_days]; exact Inv_mdl.mp hI)
  have e2 : (gF G 12 0 0) = (gF G 1 0 2) := hI.2.1.2.1.1
  have e3 : gF (daysC G n) 12 0 0 = (gF G 1 0 2) := hG.2.1.2.1.1
  refine sp_X11_days (d := d + 996) (CR_of hI) ?_ ?_
  · intro c1
    refine sp_X12_days (d := d + 997) (MR_of hI) (days_room hI) ?_ ?_
    · intro m1
      exact ⟨⟨rfl, _, rfl⟩, hI⟩
    · intro m1 m2
      exfalso; omega
  · intro c1 c2
    refine sp_X12_days (d := d + 997) (MR_of hG) (days_room hG) ?_ ?_
    · intro m1
      exfalso; omega
    · intro m1 m2
      have hX := days_step hG (show 0 ≤ n by omega) c2
      exact ⟨⟨congrArg (fun z => some (vI z)) hX.2.1.2.1.1, _, rfl⟩, Inv_cls.mpr (by rw [cls_days]; exact Inv_cls.mp hX)⟩
