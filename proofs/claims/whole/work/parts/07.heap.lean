/-! Rules of the heap: fields, arrays. -/
theorem okG_sF {np : Nat} {G : PH} {c : Nat} {r : Int} {k : Nat} {v : Int} (h : okG np G) (hv : iR v) : okG np (sF G c r k v) := by
  refine ⟨fun c' r' k' => ?_, h.2.1, h.2.2⟩
  rw [gF_sF]
  by_cases q : c' = c ∧ k' = k ∧ r' = r
  · rw [if_pos q]; exact hv
  · rw [if_neg q]; exact h.1 c' r' k'
theorem okG_sA {np : Nat} {G : PH} {c : Nat} {r i v : Int} (h : okG np G) (hv : iR v) : okG np (sA G c r i v) := by
  refine ⟨h.1, fun c' r' k' => ?_, h.2.2⟩
  rw [gA_sA]
  by_cases q : c' = c ∧ r' = r ∧ k' = i
  · rw [if_pos q]; exact hv
  · rw [if_neg q]; exact h.2.1 c' r' k'
theorem okG_sD {np : Nat} {G : PH} {c : Nat} {r i : Int} {v : Option PR} (h : okG np G) (hv : okv np (vQ v)) : okG np (sD G c r i v) := by
  refine ⟨h.1, h.2.1, fun c' r' k' q hq => ?_⟩
  rw [gD_sD] at hq
  by_cases z : c' = c ∧ r' = r ∧ k' = i
  · rw [if_pos z] at hq
    subst hq
    exact hv
  · rw [if_neg z] at hq
    exact h.2.2 c' r' k' q hq
theorem cls_sh : ∀ (ci : Nat) (q : vw_C), classes[ci]? = some q → ci < 13 ∧ q.2.2 ≤ 109 ∧ shp ci = (0, q.2.2, ci) := by
  intro ci q h
  match ci, h with
  | 0, h => cases h; exact ⟨by decide, by decide, sh0⟩
  | 1, h => cases h; exact ⟨by decide, by decide, sh1⟩
  | 2, h => cases h; exact ⟨by decide, by decide, sh2⟩
  | 3, h => cases h; exact ⟨by decide, by decide, sh3⟩
  | 4, h => cases h; exact ⟨by decide, by decide, sh4⟩
  | 5, h => cases h; exact ⟨by decide, by decide, sh5⟩
  | 6, h => cases h; exact ⟨by decide, by decide, sh6⟩
  | 7, h => cases h; exact ⟨by decide, by decide, sh7⟩
  | 8, h => cases h; exact ⟨by decide, by decide, sh8⟩
  | 9, h => cases h; exact ⟨by decide, by decide, sh9⟩
  | 10, h => cases h; exact ⟨by decide, by decide, sh10⟩
  | 11, h => cases h; exact ⟨by decide, by decide, sh11⟩
  | 12, h => cases h; exact ⟨by decide, by decide, sh12⟩
  | n + 13, h => exact absurd h (by simp [classes])
def fSt_okq (c k : Nat) : Bool := match fSt c k with
  | some c' => rws c' == 1
  | none => true
theorem fSt_ok : ∀ c, c < 13 → ∀ k, k < 110 → fSt_okq c k = true := by decide +kernel
theorem okv_fval {np : Nat} {G : PH} {c k : Nat} {r : Int} (h : okG np G) (hc : c < 13) (hk : k < 110) : okv np (fval G c r k) := by
  unfold fval
  by_cases h4 : c = 4 ∧ k = 3
  · rw [if_pos h4]
    cases hq : gD G 4 r 3 with
    | none => exact trivial
    | some q => exact h.2.2 4 r 3 q hq
  · rw [if_neg h4]
    have h1 := fSt_ok c hc k hk
    unfold fSt_okq at h1
    cases hf : fSt c k with
    | none => exact h.1 c r k
    | some c' =>
      rw [hf] at h1
      exact lv_of (by simpa using h1) (Int.le_refl 0) (by show (0 : Int) < 1; decide)
theorem mk_get {w : Wo} {G : PH} {c : Nat} {r : Int} {n k : Nat} (hk : k < n) : ((List.range n).map fun k => rvv w (fval G c r k))[k]? = some (rvv w (fval G c r k)) := by rw [List.getElem?_map, List.getElem?_range hk]; rfl
theorem mk_set {f g : Nat → Value} {n k : Nat} {v : Value} (hg : g k = v) (ho : ∀ j, j ≠ k → g j = f j) : ((List.range n).map f).set k v = (List.range n).map g := by
  apply List.ext_getElem?
  intro j
  by_cases hj : j = k
  · subst hj
    by_cases hl : j < n
    · rw [List.getElem?_set_self (by rw [List.length_map, List.length_range]; exact hl), List.getElem?_map, List.getElem?_range hl]
      exact congrArg some hg.symm
    · rw [List.getElem?_eq_none (by rw [List.length_set, List.length_map, List.length_range]; omega), List.getElem?_eq_none (by rw [List.length_map, List.length_range]; omega)]
  · rw [List.getElem?_set_ne (Ne.symm hj)]
    by_cases hl : j < n
    · rw [List.getElem?_map, List.getElem?_range hl, List.getElem?_map, List.getElem?_range hl]
      exact congrArg some (ho j hj).symm
    · rw [List.getElem?_eq_none (by rw [List.length_map, List.length_range]; omega), List.getElem?_eq_none (by rw [List.length_map, List.length_range]; omega)]
theorem fval_sF {G : PH} {c : Nat} {r : Int} {k : Nat} {v : Int} {c' : Nat} {r' : Int} {k' : Nat} (h : ¬ (c' = c ∧ k' = k ∧ r' = r)) : fval (sF G c r k v) c' r' k' = fval G c' r' k' := by
  unfold fval
  rw [gF_sF, if_neg h, gD_sF]
theorem ent_sF {w : Wo} {G : PH} {c : Nat} {r : Int} {k : Nat} {v : Int} {c' : Nat} {r' : Int} (h : ¬ (c' = c ∧ r' = r)) : ent w (sF G c r k v) c' r' = ent w G c' r' := by
  have e : (fun j => rvv w (fval (sF G c r k v) c' r' j)) = fun j => rvv w (fval G c' r' j) := funext fun j => by rw [fval_sF (fun q => h ⟨q.1, q.2.2⟩)]
  unfold ent
  rw [e]
  exact congrArg (entG _ _ _ · _) rfl
theorem ent_sA {w : Wo} {G : PH} {c : Nat} {r i v : Int} {c' : Nat} {r' : Int} (h : ¬ (c' = c ∧ r' = r)) : ent w (sA G c r i v) c' r' = ent w G c' r' := by
  have e : (fun j : Nat => Int32.ofInt (gA (sA G c r i v) c' r' j)) = fun j : Nat => Int32.ofInt (gA G c' r' j) := funext fun j => by rw [gA_sA, if_neg (fun q => h ⟨q.1, q.2.1⟩)]
  unfold ent
  rw [e]
  exact congrArg (entG _ _ · _ _) rfl
theorem fval_sD {G : PH} {c : Nat} {r i : Int} {v : Option PR} {c' : Nat} {r' : Int} {k' : Nat} (h : ¬ (c' = c ∧ r' = r)) : fval (sD G c r i v) c' r' k' = fval G c' r' k' := by
  unfold fval
  by_cases h5 : c' = 4 ∧ k' = 3
  · rw [if_pos h5, if_pos h5, gD_sD, if_neg (fun q => h ⟨by rw [h5.1]; exact q.1, q.2.1⟩)]
  · rw [if_neg h5, if_neg h5]
    rfl
theorem aref_sD {G : PH} {c : Nat} {r i : Int} {v : Option PR} {c' : Nat} {r' i' : Int} (h : ¬ (c' = c ∧ r' = r)) : aref (sD G c r i v) c' r' i' = aref G c' r' i' := by
  unfold aref
  rw [gD_sD, if_neg (fun q => h ⟨q.1, q.2.1⟩)]
theorem ent_sD {w : Wo} {G : PH} {c : Nat} {r i : Int} {v : Option PR} {c' : Nat} {r' : Int} (h : ¬ (c' = c ∧ r' = r)) : ent w (sD G c r i v) c' r' = ent w G c' r' := by
  have e : (fun j => rvv w (fval (sD G c r i v) c' r' j)) = fun j => rvv w (fval G c' r' j) := funext fun j => by rw [fval_sD h]
  have e2 : (fun j : Nat => (aref (sD G c r i v) c' r' j).map fun q => w.1.1 q.1 q.2) = fun j : Nat => (aref G c' r' j).map fun q => w.1.1 q.1 q.2 := funext fun j => by rw [aref_sD h]
  unfold ent
  rw [e, e2]
  exact congrArg (entG _ _ _ · _) rfl
/-- a field's row: which class, which slot -/
def RG (M : MI) (pc ci k pc' : Nat) : Prop := ∃ (idx : Nat) (q : vw_C), decode M.2.1 pc = .ok (.getfield idx, 3) ∧ classes[ci]? = some q ∧ k < q.2.2 ∧ Cond.fieldLink M.1.cls idx q.1 (q.2.1 k).2.1 (q.2.1 k).2.2.1 ∈ UW ∧ (q.2.1 k).1 = q.1 ∧ pc + 3 = pc'
def RP (M : MI) (pc ci k pc' : Nat) : Prop := ∃ (idx : Nat) (q : vw_C), decode M.2.1 pc = .ok (.putfield idx, 3) ∧ classes[ci]? = some q ∧ k < q.2.2 ∧ Cond.fieldLink M.1.cls idx q.1 (q.2.1 k).2.1 (q.2.1 k).2.2.1 ∈ UW ∧ (q.2.1 k).1 = q.1 ∧ ((q.2.1 k).2.2.2 = false ∨ (M.1.name = "<init>" ∧ q.1 = M.1.cls ∧ (q.2.1 k).2.2.2 = true)) ∧ pc + 3 = pc'
section HEAP
variable {l : Launch} {w : Wo} {M : MI} {d K k pc pc' : Nat} {ls : List (Option PV)} {st : List PV} {G : PH} {Φ : Wo → Option PV → PH → Prop}
theorem pw_get {ci k0 : Nat} {r : Int} {v : PV} (hd : RG M pc ci k0 pc') (hv : fval G ci r k0 = v) (K0 : PWg l w M d K k pc' ls (v :: st) G Φ) : PWg l w M d K k pc ls (vR ci r :: st) G Φ := by
  subst hv
  obtain ⟨idx, q, hd, hc, hk, hlk, hdecl, rfl⟩ := hd
  intro p e s m args below meth c H locs lsr hC hW hO hS hL
  obtain ⟨hci, hq, hsh⟩ := cls_sh ci q hc
  have hlv : lv w.1.2 ci r := hO.2.1 _ List.mem_cons_self
  obtain ⟨i0, -, h0⟩ := wl_at (w := w) (cs_mem hlv (by rw [hsh]; exact Nat.zero_le _))
  rw [ent_o hsh] at h0
  have h := K0 p e s m args below meth c H locs lsr hC hW ⟨hO.1, memC (okv_fval hO.1 hci (by omega)) (fun v hv => hO.2.1 v (List.mem_cons_of_mem _ hv)), hO.2.2⟩ hS hL
  obtain ⟨C, T, N⟩ := q
  exact va_get (D := w.2.1) (ci := ci) hC.1 hC.2.1 hC.2.2.2.2.2.1 (cls_ok ci _ hc).1 hC.2.2.2.2.1 hC.2.2.2.2.2.2.2.2.1.1 hW.1 i0 h0 hc k0 hk (hC.2.2.2.2.2.1 _ hlk) (fun _ h9 => hdecl ▸ h9) (mk_get hk) hd h
theorem pw_getI {ci k0 : Nat} {r : Int} (hd : RG M pc ci k0 pc') (hf : fSt ci k0 = none) (hn : ¬ (ci = 4 ∧ k0 = 3)) (K0 : PWg l w M d K k pc' ls (vI (gF G ci r k0) :: st) G Φ) : PWg l w M d K k pc ls (vR ci r :: st) G Φ :=
  pw_get hd (by unfold fval; rw [if_neg hn, hf]) K0
theorem pw_getIv {ci k0 : Nat} {r v : Int} (hd : RG M pc ci k0 pc') (hf : fSt ci k0 = none) (hn : ¬ (ci = 4 ∧ k0 = 3)) (hv : gF G ci r k0 = v) (K0 : PWg l w M d K k pc' ls (vI v :: st) G Φ) : PWg l w M d K k pc ls (vR ci r :: st) G Φ :=
  pw_getI hd hf hn (by rw [hv]; exact K0)
theorem pw_getR {ci k0 c' : Nat} {r : Int} (hd : RG M pc ci k0 pc') (hf : fSt ci k0 = some c') (hn : ¬ (ci = 4 ∧ k0 = 3)) (K0 : PWg l w M d K k pc' ls (vR c' 0 :: st) G Φ) : PWg l w M d K k pc ls (vR ci r :: st) G Φ :=
  pw_get hd (by unfold fval; rw [if_neg hn, hf]) K0
theorem pw_getB {r : Int} (hd : RG M pc 4 3 pc') (K0 : PWg l w M d K k pc' ls (vQ (gD G 4 r 3) :: st) G Φ) : PWg l w M d K k pc ls (vR 4 r :: st) G Φ :=
  pw_get hd (by unfold fval; exact if_pos ⟨rfl, rfl⟩) K0
theorem pw_put0 {ci k0 : Nat} {r : Int} {v : PV} {G' : PH} (hd : RP M pc ci k0 pc') (hn : narrow (tyC ci k0) (rvv w v) = rvv w v) (hfit : fits (tyC ci k0) (rvv w v) = true) (hv : fval G' ci r k0 = v) (ho : ∀ j, j ≠ k0 → fval G' ci r j = fval G ci r j) (he : ∀ (c' : Nat) (r' : Int), ¬ (c' = ci ∧ r' = r) → ent w G' c' r' = ent w G c' r') (hG : okG w.1.2 G → okv w.1.2 v → okG w.1.2 G')
    (K0 : PWg l w M d K k pc' ls st G' Φ) : PWg l w M d K k pc ls (v :: vR ci r :: st) G Φ := by
  obtain ⟨idx, q, hd, hc, hk, hlk, hdecl, hfin, rfl⟩ := hd
  intro p e s m args below meth c H locs lsr hC hW hO hS hL
  obtain ⟨hci, hq, hsh⟩ := cls_sh ci q hc
  have hlv : lv w.1.2 ci r := hO.2.1 _ (List.mem_cons_of_mem _ List.mem_cons_self)
  obtain ⟨i0, hi0, h0⟩ := wl_at (w := w) (cs_mem hlv (by rw [hsh]; exact Nat.zero_le _))
  have hset := wl_set (w := w) (G' := G') (e := .inr (ci, ((List.range q.2.2).map fun j => rvv w (fval G ci r j)).set k0 (rvv w v))) hW.2 hi0 (by rw [ent_o hsh, mk_set (g := fun j => rvv w (fval G' ci r j)) (by rw [hv]) (fun j hj => by rw [ho j hj])]) he
  rw [ent_o hsh] at h0
  have h := fun (H1 : Heap) (locs1 : List Loc) (hP : va_P w.2.1 classes (wl w G') H1) (hD : va_D (Ab w) (wl w G')) (hS1 : va_S (Ab w) s.heap H1 locs1) => K0 p e s m args below meth c H1 locs1 lsr hC ⟨hP, hD⟩ ⟨hG hO.1 (hO.2.1 _ List.mem_cons_self), fun v hv => hO.2.1 v (List.mem_cons_of_mem _ (List.mem_cons_of_mem _ hv)), hO.2.2⟩ hS1 hL
  obtain ⟨C, T, N⟩ := q
  obtain ⟨o1, o2, o3⟩ := cls_ok ci _ hc
  rcases hfin with hfin | ⟨hin, hown, hfin⟩
  · exact va_put (D := w.2.1) (ci := ci) hC.1 hC.2.1 hC.2.2.2.2.2.1 o1 (tyC ci) o2 o3 hC.2.2.2.2.1 hC.2.2.2.2.2.2.2.2.1.1 hW.1 hW.2 hS i0 h0 hc k0 hk (hC.2.2.2.2.2.1 _ hlk) (fun _ h9 => hdecl ▸ h9) hfin (o2 k0 hk) hn hfit (by rw [List.length_map, List.length_range]; exact hk) hd (fun H1 locs1 hP hD hS1 => h H1 locs1 (hset ▸ hP) (hset ▸ hD) hS1)
  · exact va_putF (D := w.2.1) (ci := ci) hC.1 hC.2.1 hC.2.2.2.2.2.1 o1 (tyC ci) o2 o3 hC.2.2.2.2.1 hC.2.2.2.2.2.2.2.2.1.1 hW.1 hW.2 hS i0 h0 hc k0 hk (hC.2.2.2.2.2.1 _ hlk) (fun _ h9 => hdecl ▸ h9) hfin (by rw [hC.2.2.2.2.2.2.2.1]; exact hin) (hdecl.trans hown) (o2 k0 hk) hn hfit (by rw [List.length_map, List.length_range]; exact hk) hd (fun H1 locs1 hP hD hS1 => h H1 locs1 (hset ▸ hP) (hset ▸ hD) hS1)
theorem fval_sF_same {ci k0 : Nat} {r a : Int} (hf : fSt ci k0 = none) (hn : ¬ (ci = 4 ∧ k0 = 3)) : fval (sF G ci r k0 a) ci r k0 = vI a := by
  unfold fval
  rw [if_neg hn, hf]
  show vI (gF (sF G ci r k0 a) ci r k0) = vI a
  rw [gF_sF, if_pos ⟨rfl, rfl, rfl⟩]
theorem pw_putI {ci k0 : Nat} {r a : Int} (hd : RP M pc ci k0 pc') (ht : tyC ci k0 = .int) (hf : fSt ci k0 = none) (hn : ¬ (ci = 4 ∧ k0 = 3)) (K0 : PWg l w M d K k pc' ls st (sF G ci r k0 a) Φ) : PWg l w M d K k pc ls (vI a :: vR ci r :: st) G Φ :=
  pw_put0 (G' := sF G ci r k0 a) hd (by rw [ht]; rfl) (by rw [ht]; rfl) (fval_sF_same hf hn) (fun j hj => fval_sF (fun q => hj q.2.1)) (fun c' r' h => ent_sF h) (fun h1 h2 => okG_sF h1 h2) K0
theorem pw_putZ {ci k0 : Nat} {r a : Int} (hd : RP M pc ci k0 pc') (ht : tyC ci k0 = .boolean) (hz : a = 0 ∨ a = 1) (hf : fSt ci k0 = none) (hn : ¬ (ci = 4 ∧ k0 = 3)) (K0 : PWg l w M d K k pc' ls st (sF G ci r k0 a) Φ) : PWg l w M d K k pc ls (vI a :: vR ci r :: st) G Φ :=
  pw_put0 (G' := sF G ci r k0 a) hd (by rw [ht]; rcases hz with rfl | rfl <;> rfl) (by rw [ht]; rcases hz with rfl | rfl <;> rfl) (fval_sF_same hf hn) (fun j hj => fval_sF (fun q => hj q.2.1)) (fun c' r' h => ent_sF h) (fun h1 h2 => okG_sF h1 h2) K0
theorem pw_putB {r : Int} {q : PR} (hd : RP M pc 4 3 pc') (K0 : PWg l w M d K k pc' ls st (sD G 4 r 3 (some q)) Φ) : PWg l w M d K k pc ls (vQ (some q) :: vR 4 r :: st) G Φ :=
  pw_put0 (G' := sD G 4 r 3 (some q)) hd rfl rfl (by unfold fval; rw [if_pos ⟨rfl, rfl⟩, gD_sD, if_pos ⟨rfl, rfl, rfl⟩]) (fun j hj => by unfold fval; rw [if_neg (fun q => hj q.2), if_neg (fun q => hj q.2)]; rfl) (fun c' r' h => ent_sD h) (fun h1 h2 => okG_sD h1 h2) K0
/-- arrays -/
theorem arr_lt : ∀ c, c < 300 → (shp c).2.1 < 2147483648 := by decide +kernel
theorem arr_len {np c : Nat} {r : Int} {n t : Nat} (h : lv np c r) (hs : shp c = (1, n, t)) : n < 2 ^ 31 := by
  have hc : c < 300 := by
    rcases h with ⟨h, -⟩ | ⟨h1, h2⟩ | ⟨h1, h2, -⟩
    · omega
    · have := rws_lt (c := c) (by omega)
      unfold nKind at this
      omega
    · omega
  have := arr_lt c hc
  rw [hs] at this
  exact this
theorem pw_xald {t c n : Nat} {r i : Int} (f : ∀ {p : Program} {e : Env} {s : State} {m : MethodId} {args : Array Value} {below : List Frame} {meth : Method} {c0 : Code} {H : Heap} {locs : List Loc} {cells slots : Nat} {Q : State → Prop} {R : Room} {cc : ByteArray} {pc0 : Nat} {lsr : Array Slot} {rest : List Value} {a : Nat} {ws : va_W} {D : va_G} {cl : List vw_C} {tys : List (ClassId × FieldType)}, p.tables.exec = Jvm.exec → c0.code = cc → va_K D cl tys s → va_P D cl ws H → ∀ (q0 t0 : Nat) (cA : ClassId) (n : Nat) (f : Nat → Int32), ws[q0]? = some (a, .inl (cA, n, .inl f)) → tys[t0]? = some (cA, aty t) → ∀ (i : Int32), vp_in i n → decode cc pc0 = decode M.2.1 pc → W p l e R s m args below meth c0 H locs cells slots Q (F0 m (pc0 + 1) lsr (.int (f i.toNatClampNeg) :: rest)) → W p l e R s m args below meth c0 H locs cells slots Q (F0 m pc0 lsr (.int i :: .ref a :: rest)))
    (ht : t < 4) (hs : shp c = (1, n, t)) (h0 : 0 ≤ i) (h1 : i < n) (K0 : PWg l w M d K k (pc + 1) ls (vI (gA G c r i) :: st) G Φ) : PWg l w M d K k pc ls (vI i :: vR c r :: st) G Φ := by
  intro p e s m args below meth c0 H locs lsr hC hW hO hS hL
  have hlv : lv w.1.2 c r := hO.2.1 _ (List.mem_cons_of_mem _ List.mem_cons_self)
  obtain ⟨i0, -, e0⟩ := wl_at (w := w) (cs_mem hlv (by rw [hs]; exact Nat.le_refl _))
  rw [ent_i hs ht] at e0
  obtain ⟨g1, g2⟩ := of_in h0 h1 (arr_len hlv hs)
  have h := K0 p e s m args below meth c0 H locs lsr hC hW ⟨hO.1, mem2 (hO.1.2.1 c r i) hO.2.1, hO.2.2⟩ hS hL
  refine f hC.1 hC.2.1 hC.2.2.2.2.2.2.2.2.1.1 hW.1 i0 t _ _ _ e0 (tys_at (by omega)) _ g1 rfl ?_
  have e1 : Int32.ofInt (gA G c r ((Int32.ofInt i).toNatClampNeg : Nat)) = Int32.ofInt (gA G c r i) := by rw [g2, Int.toNat_of_nonneg h0]
  rw [e1]
  exact h
theorem pw_iald {c n : Nat} {r i : Int} (hd : RW M pc .iaload pc' 1) (hs : shp c = (1, n, 0)) (h0 : 0 ≤ i) (h1 : i < n) (K0 : PWg l w M d K k pc' ls (vI (gA G c r i) :: st) G Φ) : PWg l w M d K k pc ls (vI i :: vR c r :: st) G Φ := by
  obtain ⟨hd, rfl⟩ := hd
  exact pw_xald (t := 0) (fun hx hb hK hP q0 t0 _ _ _ ha ht _ hin e k => va_iald hx hb hK hP q0 t0 ha ht hin (e.trans hd) k) (by decide) hs h0 h1 K0
theorem pw_ialdv {c n : Nat} {r i v : Int} (hd : RW M pc .iaload pc' 1) (hs : shp c = (1, n, 0)) (h0 : 0 ≤ i) (h1 : i < n) (hv : gA G c r i = v) (K0 : PWg l w M d K k pc' ls (vI v :: st) G Φ) : PWg l w M d K k pc ls (vI i :: vR c r :: st) G Φ := pw_iald hd hs h0 h1 (by rw [hv]; exact K0)
theorem pw_bald {c n : Nat} {r i : Int} (hd : RW M pc .baload pc' 1) (hs : shp c = (1, n, 1)) (h0 : 0 ≤ i) (h1 : i < n) (K0 : PWg l w M d K k pc' ls (vI (gA G c r i) :: st) G Φ) : PWg l w M d K k pc ls (vI i :: vR c r :: st) G Φ := by
  obtain ⟨hd, rfl⟩ := hd
  exact pw_xald (t := 1) (fun hx hb hK hP q0 t0 _ _ _ ha ht _ hin e k => va_bald hx hb hK hP q0 t0 ha ht hin (e.trans hd) k) (by decide) hs h0 h1 K0
theorem pw_zald {c n : Nat} {r i : Int} (hd : RW M pc .baload pc' 1) (hs : shp c = (1, n, 2)) (h0 : 0 ≤ i) (h1 : i < n) (K0 : PWg l w M d K k pc' ls (vI (gA G c r i) :: st) G Φ) : PWg l w M d K k pc ls (vI i :: vR c r :: st) G Φ := by
  obtain ⟨hd, rfl⟩ := hd
  exact pw_xald (t := 2) (fun hx hb hK hP q0 t0 _ _ _ ha ht _ hin e k => va_zald hx hb hK hP q0 t0 ha ht hin (e.trans hd) k) (by decide) hs h0 h1 K0
theorem pw_baldv {c n : Nat} {r i v : Int} (hd : RW M pc .baload pc' 1) (hs : shp c = (1, n, 1)) (h0 : 0 ≤ i) (h1 : i < n) (hv : gA G c r i = v) (K0 : PWg l w M d K k pc' ls (vI v :: st) G Φ) : PWg l w M d K k pc ls (vI i :: vR c r :: st) G Φ := pw_bald hd hs h0 h1 (by rw [hv]; exact K0)
theorem pw_zaldv {c n : Nat} {r i v : Int} (hd : RW M pc .baload pc' 1) (hs : shp c = (1, n, 2)) (h0 : 0 ≤ i) (h1 : i < n) (hv : gA G c r i = v) (K0 : PWg l w M d K k pc' ls (vI v :: st) G Φ) : PWg l w M d K k pc ls (vI i :: vR c r :: st) G Φ := pw_zald hd hs h0 h1 (by rw [hv]; exact K0)
theorem pw_sald {c n : Nat} {r i : Int} (hd : RW M pc .saload pc' 1) (hs : shp c = (1, n, 3)) (h0 : 0 ≤ i) (h1 : i < n) (K0 : PWg l w M d K k pc' ls (vI (gA G c r i) :: st) G Φ) : PWg l w M d K k pc ls (vI i :: vR c r :: st) G Φ := by
  obtain ⟨hd, rfl⟩ := hd
  exact pw_xald (t := 3) (fun hx hb hK hP q0 t0 _ _ _ ha ht _ hin e k => va_sald hx hb hK hP q0 t0 ha ht hin (e.trans hd) k) (by decide) hs h0 h1 K0
theorem pw_saldv {c n : Nat} {r i v : Int} (hd : RW M pc .saload pc' 1) (hs : shp c = (1, n, 3)) (h0 : 0 ≤ i) (h1 : i < n) (hv : gA G c r i = v) (K0 : PWg l w M d K k pc' ls (vI v :: st) G Φ) : PWg l w M d K k pc ls (vI i :: vR c r :: st) G Φ := pw_sald hd hs h0 h1 (by rw [hv]; exact K0)
theorem upd_ent {i v : Int} {r : Int} {c : Nat} (h0 : 0 ≤ i) : upd (fun j : Nat => Int32.ofInt (gA G c r j)) i.toNat (Int32.ofInt v) = fun j : Nat => Int32.ofInt (gA (sA G c r i v) c r j) := by
  funext j
  show (if j = i.toNat then Int32.ofInt v else Int32.ofInt (gA G c r j)) = _
  rw [gA_sA]
  by_cases h : j = i.toNat
  · rw [if_pos h, if_pos ⟨rfl, rfl, by omega⟩]
  · rw [if_neg h, if_neg (fun q => h (by omega))]
theorem pw_xast {t c n : Nat} {r i v v' : Int} (f : ∀ {p : Program} {e : Env} {s : State} {m : MethodId} {args : Array Value} {below : List Frame} {meth : Method} {c0 : Code} {H H0 : Heap} {locs : List Loc} {cells slots : Nat} {Q : State → Prop} {R : Room} {cc : ByteArray} {pc0 : Nat} {lsr : Array Slot} {rest : List Value} {a : Nat} {ws : va_W} {D : va_G} {cl : List vw_C} {tys : List (ClassId × FieldType)} {A : Nat → Prop}, p.tables.exec = Jvm.exec → c0.code = cc → va_K D cl tys s → va_P D cl ws H → va_D A ws → va_S A H0 H locs → ∀ (q0 t0 : Nat) (cA : ClassId) (n : Nat) (f : Nat → Int32), ws[q0]? = some (a, .inl (cA, n, .inl f)) → tys[t0]? = some (cA, aty t) → ∀ (i : Int32), vp_in i n → decode cc pc0 = decode M.2.1 pc →
      (∀ (H1 : Heap) (locs1 : List Loc), va_P D cl (ws.set q0 (a, .inl (cA, n, .inl (upd f i.toNatClampNeg (Int32.ofInt v'))))) H1 → va_D A (ws.set q0 (a, .inl (cA, n, .inl (upd f i.toNatClampNeg (Int32.ofInt v'))))) → va_S A H0 H1 locs1 → W p l e R s m args below meth c0 H1 locs1 cells slots Q (F0 m (pc0 + 1) lsr rest)) → W p l e R s m args below meth c0 H locs cells slots Q (F0 m pc0 lsr (.int (Int32.ofInt v) :: .int i :: .ref a :: rest)))
    (ht : t < 4) (hs : shp c = (1, n, t)) (h0 : 0 ≤ i) (h1 : i < n) (hv : iR v → iR v') (K0 : PWg l w M d K k (pc + 1) ls st (sA G c r i v') Φ) : PWg l w M d K k pc ls (vI v :: vI i :: vR c r :: st) G Φ := by
  intro p e s m args below meth c0 H locs lsr hC hW hO hS hL
  have hlv : lv w.1.2 c r := hO.2.1 _ (List.mem_cons_of_mem _ (List.mem_cons_of_mem _ List.mem_cons_self))
  obtain ⟨i0, hi0, e0⟩ := wl_at (w := w) (cs_mem hlv (by rw [hs]; exact Nat.le_refl _))
  have hset := wl_set (w := w) (G' := sA G c r i v') (e := .inl (w.2.2.1 t, n, .inl (upd (fun j : Nat => Int32.ofInt (gA G c r j)) i.toNat (Int32.ofInt v')))) hW.2 hi0 (by rw [ent_i hs ht, upd_ent h0]) (fun c' r' h => ent_sA h)
  rw [ent_i hs ht] at e0
  obtain ⟨g1, g2⟩ := of_in h0 h1 (arr_len hlv hs)
  refine f hC.1 hC.2.1 hC.2.2.2.2.2.2.2.2.1.1 hW.1 hW.2 hS i0 t _ _ _ e0 (tys_at (by omega)) _ g1 rfl (fun H1 locs1 hP hD hS1 => ?_)
  rw [g2, hset] at hP hD
  exact K0 p e s m args below meth c0 H1 locs1 lsr hC ⟨hP, hD⟩ ⟨okG_sA hO.1 (hv (hO.2.1 _ List.mem_cons_self)), fun u hu => hO.2.1 u (List.mem_cons_of_mem _ (List.mem_cons_of_mem _ (List.mem_cons_of_mem _ hu))), hO.2.2⟩ hS1 hL
theorem pw_iast {c n : Nat} {r i v : Int} (hd : RW M pc .iastore pc' 1) (hs : shp c = (1, n, 0)) (h0 : 0 ≤ i) (h1 : i < n) (K0 : PWg l w M d K k pc' ls st (sA G c r i v) Φ) : PWg l w M d K k pc ls (vI v :: vI i :: vR c r :: st) G Φ := by
  obtain ⟨hd, rfl⟩ := hd
  exact pw_xast (t := 0) (v' := v) (fun hx hb hK hP hD hS q0 t0 _ _ _ ha ht _ hin e k => va_iast hx hb hK hP hD hS q0 t0 ha ht hin (e.trans hd) k) (by decide) hs h0 h1 id K0
theorem nar_b {v : Int} (hv : iR v) : vp_nar .byte (Int32.ofInt v) = Int32.ofInt (b8 v) := by rw [vp_nar_byte, of_b8 hv]
theorem nar_s {v : Int} (hv : iR v) : vp_nar .short (Int32.ofInt v) = Int32.ofInt (b16 v) := by rw [vp_nar_short, of_b16 hv]
theorem pw_stk {G0 : PH} {st0 : List PV} (h : OKs w G0 ls st0 → PWg l w M d K k pc ls st0 G0 Φ) : PWg l w M d K k pc ls st0 G0 Φ := fun p e s m args below meth c H locs lsr hC hW hO hS hL => h hO p e s m args below meth c H locs lsr hC hW hO hS hL
theorem pw_bast {c n : Nat} {r i v : Int} (hd : RW M pc .bastore pc' 1) (hs : shp c = (1, n, 1)) (h0 : 0 ≤ i) (h1 : i < n) (K0 : PWg l w M d K k pc' ls st (sA G c r i (b8 v)) Φ) : PWg l w M d K k pc ls (vI v :: vI i :: vR c r :: st) G Φ := by
  obtain ⟨hd, rfl⟩ := hd
  refine pw_stk fun hO => ?_
  have hv : iR v := hO.2.1 _ List.mem_cons_self
  exact pw_xast (t := 1) (v' := b8 v) (fun hx hb hK hP hD hS q0 t0 _ _ _ ha ht _ hin e k => va_bast hx hb hK hP hD hS q0 t0 ha ht hin (e.trans hd) (by rw [nar_b hv]; exact k)) (by decide) hs h0 h1 (fun _ => iR_b8 v) K0
theorem pw_sast {c n : Nat} {r i v : Int} (hd : RW M pc .sastore pc' 1) (hs : shp c = (1, n, 3)) (h0 : 0 ≤ i) (h1 : i < n) (K0 : PWg l w M d K k pc' ls st (sA G c r i (b16 v)) Φ) : PWg l w M d K k pc ls (vI v :: vI i :: vR c r :: st) G Φ := by
  obtain ⟨hd, rfl⟩ := hd
  refine pw_stk fun hO => ?_
  have hv : iR v := hO.2.1 _ List.mem_cons_self
  exact pw_xast (t := 3) (v' := b16 v) (fun hx hb hK hP hD hS q0 t0 _ _ _ ha ht _ hin e k => va_sast hx hb hK hP hD hS q0 t0 ha ht hin (e.trans hd) (by rw [nar_s hv]; exact k)) (by decide) hs h0 h1 (fun _ => iR_b16 v) K0
theorem nar_z {v : Int} (hv : v = 0 ∨ v = 1) : vp_nar .boolean (Int32.ofInt v) = Int32.ofInt v := by rcases hv with rfl | rfl <;> rfl
theorem pw_zast {c n : Nat} {r i v : Int} (hd : RW M pc .bastore pc' 1) (hs : shp c = (1, n, 2)) (h0 : 0 ≤ i) (h1 : i < n) (hz : v = 0 ∨ v = 1) (K0 : PWg l w M d K k pc' ls st (sA G c r i v) Φ) : PWg l w M d K k pc ls (vI v :: vI i :: vR c r :: st) G Φ := by
  obtain ⟨hd, rfl⟩ := hd
  exact pw_xast (t := 2) (v' := v) (fun hx hb hK hP hD hS q0 t0 _ _ _ ha ht _ hin e k => va_zast hx hb hK hP hD hS q0 t0 ha ht hin (e.trans hd) (by rw [nar_z hz]; exact k)) (by decide) hs h0 h1 id K0
/-- an array of references: its element -/
theorem pw_aald {c n t : Nat} {r i : Int} (hd : RW M pc .aaload pc' 1) (hs : shp c = (1, n, t)) (ht : ¬ t < 4) (ht8 : t < 8) (h0 : 0 ≤ i) (h1 : i < n) (hok : okG w.1.2 G → okv w.1.2 (vQ (aref G c r i))) (K0 : PWg l w M d K k pc' ls (vQ (aref G c r i) :: st) G Φ) : PWg l w M d K k pc ls (vI i :: vR c r :: st) G Φ := by
  obtain ⟨hd, rfl⟩ := hd
  intro p e s m args below meth c0 H locs lsr hC hW hO hS hL
  have hlv : lv w.1.2 c r := hO.2.1 _ (List.mem_cons_of_mem _ List.mem_cons_self)
  obtain ⟨i0, -, e0⟩ := wl_at (w := w) (cs_mem hlv (by rw [hs]; exact Nat.le_refl _))
  rw [ent_q hs ht] at e0
  obtain ⟨g1, g2⟩ := of_in h0 h1 (arr_len hlv hs)
  have h := K0 p e s m args below meth c0 H locs lsr hC hW ⟨hO.1, mem2 (hok hO.1) hO.2.1, hO.2.2⟩ hS hL
  have hlt : (Int32.ofInt i).toNatClampNeg < n := Nat.not_le.mp fun q => g1 (Or.inr q)
  have hty : (aty t).isReference = true := by
    have : t = 4 ∨ t = 5 ∨ t = 6 ∨ t = 7 := by omega
    rcases this with rfl | rfl | rfl | rfl <;> rfl
  refine W.aald (v := rvv w (vQ (aref G c r i))) (ty := aty t) hC.1 hC.2.1 (hW.1 i0 _ e0) ((hC.2.2.2.2.2.2.2.2.1.1.2 t _ (tys_at ht8)).1 n (fun j => va_rf ((aref G c r j).map fun q => w.1.1 q.1 q.2))) hty (fun q => by cases q) (by show ¬ (_ < 0 ∨ (arrV _ _ _).slots.size ≤ _); rw [arrV_size]; exact g1) ?_ rfl rfl hd h
  show (arrV _ _ _).slots[_]? = _
  rw [arrV_read _ _ hlt, g2]
  show some (va_rf (Option.map (fun q => w.1.1 q.1 q.2) (aref G c r (i.toNat : Nat)))) = _
  rw [Int.toNat_of_nonneg h0]
  cases aref G c r i <;> rfl
theorem pw_aaldS {c c' n t : Nat} {r i : Int} (hd : RW M pc .aaload pc' 1) (hs : shp c = (1, n, t)) (ht : ¬ t < 4) (ht8 : t < 8) (ha : aSt c = some c') (hr : rws c' = n) (h0 : 0 ≤ i) (h1 : i < n) (K0 : PWg l w M d K k pc' ls (vR c' i :: st) G Φ) : PWg l w M d K k pc ls (vI i :: vR c r :: st) G Φ := by
  have e : aref G c r i = some (c', i) := by unfold aref; rw [ha]
  refine pw_aald hd hs ht ht8 h0 h1 (fun _ => by rw [e]; exact lv_of hr h0 h1) ?_
  rw [e]
  exact K0
theorem pw_aaldP {r i : Int} (hd : RW M pc .aaload pc' 1) (h0 : 0 ≤ i) (h1 : i < 150) (K0 : PWg l w M d K k pc' ls (vQ (gD G 30 r i) :: st) G Φ) : PWg l w M d K k pc ls (vI i :: vR 30 r :: st) G Φ := by
  have e : aref G 30 r i = gD G 30 r i := by
    unfold aref
    rw [show aSt 30 = none by decide +kernel]
  refine pw_aald hd sh30 (by decide) (by decide) h0 h1 (fun hG => ?_) (by rw [e]; exact K0)
  rw [e]
  cases hq : gD G 30 r i with
  | none => exact trivial
  | some q => exact hG.2.2 30 r i q hq
theorem up_ent {i : Int} {q : PR} {r : Int} (h0 : 0 ≤ i) : va_up (fun j : Nat => (aref G 30 r j).map fun q => w.1.1 q.1 q.2) i.toNat (some (w.1.1 q.1 q.2)) = fun j : Nat => (aref (sD G 30 r i (some q)) 30 r j).map fun q => w.1.1 q.1 q.2 := by
  have e : ∀ (X : PH) (j : Int), aref X 30 r j = gD X 30 r j := fun X j => by
    unfold aref
    rw [show aSt 30 = none by decide +kernel]
  funext j
  show (if j = i.toNat then some (w.1.1 q.1 q.2) else (aref G 30 r j).map fun q => w.1.1 q.1 q.2) = _
  rw [e, e, gD_sD]
  by_cases h : j = i.toNat
  · rw [if_pos h, if_pos ⟨rfl, rfl, by omega⟩]; rfl
  · rw [if_neg h, if_neg (fun q => h (by omega))]
theorem pw_aaldPv {r i : Int} {q : Option PR} (hd : RW M pc .aaload pc' 1) (h0 : 0 ≤ i) (h1 : i < 150) (hv : gD G 30 r i = q) (K0 : PWg l w M d K k pc' ls (vQ q :: st) G Φ) : PWg l w M d K k pc ls (vI i :: vR 30 r :: st) G Φ := pw_aaldP hd h0 h1 (by rw [hv]; exact K0)
/-- people[i] = p -/
theorem pw_aastP {r i j : Int} (hd : RW M pc .aastore pc' 1) (h0 : 0 ≤ i) (h1 : i < 150) (K0 : PWg l w M d K k pc' ls st (sD G 30 r i (some (3, j))) Φ) : PWg l w M d K k pc ls (vR 3 j :: vI i :: vR 30 r :: st) G Φ := by
  obtain ⟨hd, rfl⟩ := hd
  intro p e s m args below meth c0 H locs lsr hC hW hO hS hL
  have hlv : lv w.1.2 30 r := hO.2.1 _ (List.mem_cons_of_mem _ (List.mem_cons_of_mem _ List.mem_cons_self))
  have hlp : lv w.1.2 3 j := hO.2.1 _ List.mem_cons_self
  obtain ⟨i0, hi0, e0⟩ := wl_at (w := w) (cs_mem hlv (by rw [sh30]; exact Nat.le_refl _))
  obtain ⟨i1, -, e1⟩ := wl_at (w := w) (cs_mem hlp (by rw [sh3]; exact Nat.zero_le _))
  have hset := wl_set (w := w) (G' := sD G 30 r i (some (3, j))) (e := .inl (w.2.2.1 7, 150, .inr (.inr (.inr (.inr (va_up (fun j : Nat => (aref G 30 r j).map fun q => w.1.1 q.1 q.2) i.toNat (some (w.1.1 3 j)))))))) hW.2 hi0 (by rw [ent_q sh30 (by decide)]; have := up_ent (w := w) (G := G) (q := (3, j)) (r := r) h0; rw [this]) (fun c' r' h => ent_sD h)
  rw [ent_q sh30 (by decide)] at e0
  rw [ent_o sh3] at e1
  obtain ⟨g1, g2⟩ := of_in (n := 150) h0 h1 (by decide)
  refine va_astq (D := w.2.1) (cl := classes) (r := (RX3, TX3, 12)) hC.1 hC.2.1 hC.2.2.2.2.2.2.2.2.1.1 hW.1 hW.2 hS i0 7 i1 3 e0 (tys_at (by decide)) e1 rfl g1 hd (fun H1 locs1 hP hD hS1 => ?_)
  rw [g2, hset] at hP hD
  exact K0 p e s m args below meth c0 H1 locs1 lsr hC ⟨hP, hD⟩ ⟨okG_sD hO.1 hlp, fun u hu => hO.2.1 u (List.mem_cons_of_mem _ (List.mem_cons_of_mem _ (List.mem_cons_of_mem _ hu))), hO.2.2⟩ hS1 hL
theorem pw_alen {c n t : Nat} {r : Int} (hd : RW M pc .arraylength pc' 1) (hs : shp c = (1, n, t)) (ht8 : t < 8) (K0 : PWg l w M d K k pc' ls (vI n :: st) G Φ) : PWg l w M d K k pc ls (vR c r :: st) G Φ := by
  obtain ⟨hd, rfl⟩ := hd
  intro p e s m args below meth c0 H locs lsr hC hW hO hS hL
  have hlv : lv w.1.2 c r := hO.2.1 _ List.mem_cons_self
  obtain ⟨i0, -, e0⟩ := wl_at (w := w) (cs_mem hlv (by rw [hs]; exact Nat.le_refl _))
  have hn := arr_len hlv hs
  have h := K0 p e s m args below meth c0 H locs lsr hC hW ⟨hO.1, mem1 (show iR n from ⟨by omega, by omega⟩) hO.2.1, hO.2.2⟩ hS hL
  by_cases ht : t < 4
  · rw [ent_i hs ht] at e0
    exact va_alen (v := Int32.ofInt n) hC.1 hC.2.1 hC.2.2.2.2.2.2.2.2.1.1 hW.1 i0 t e0 (tys_at ht8) rfl hd h
  · rw [ent_q hs ht] at e0
    exact va_alen (v := Int32.ofInt n) hC.1 hC.2.1 hC.2.2.2.2.2.2.2.2.1.1 hW.1 i0 t e0 (tys_at ht8) rfl hd h
end HEAP
