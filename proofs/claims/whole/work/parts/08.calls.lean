/-! Calls, new persons. -/
def Agr (w w' : Wo) : Prop := w.1.2 ≤ w'.1.2 ∧ ∀ c r, lv w.1.2 c r → w'.1.1 c r = w.1.1 c r
theorem Agr.rf (w : Wo) : Agr w w := ⟨Nat.le_refl _, fun _ _ _ => rfl⟩
theorem Agr.tr {a b c : Wo} (h1 : Agr a b) (h2 : Agr b c) : Agr a c := ⟨Nat.le_trans h1.1 h2.1, fun k r h => by
  have hb : lv b.1.2 k r := by
    rcases h with ⟨q1, q2, q3⟩ | h | h
    · exact Or.inl ⟨q1, q2, by have := h1.1; omega⟩
    · exact Or.inr (Or.inl h)
    · exact Or.inr (Or.inr h)
  rw [h2.2 k r hb, h1.2 k r h]⟩
theorem lv_mono {np np' c : Nat} {r : Int} (hn : np ≤ np') (h : lv np c r) : lv np' c r := by
  rcases h with ⟨q1, q2, q3⟩ | h | h
  · exact Or.inl ⟨q1, q2, by omega⟩
  · exact Or.inr (Or.inl h)
  · exact Or.inr (Or.inr h)
theorem okv_mono {np np' : Nat} {v : PV} (hn : np ≤ np') (h : okv np v) : okv np' v := by
  rcases v with n | (_ | q) | n
  · exact h
  · exact h
  · exact lv_mono hn h
  · exact h
theorem rvv_ext {w w' : Wo} {v : PV} (hA : Agr w w') (h : okv w.1.2 v) : rvv w' v = rvv w v := by
  rcases v with n | (_ | q) | n
  · rfl
  · rfl
  · exact congrArg Value.ref (hA.2 q.1 q.2 h)
  · rfl
theorem Kw.ext {w w' : Wo} {s : State} (h : Kw w s) (h1 : w'.2 = w.2) (hA : Agr w w') : Kw w' s := by
  obtain ⟨a, b⟩ := w
  obtain ⟨a', b'⟩ := w'
  cases h1
  refine ⟨h.1, h.2.1, ?_⟩
  have e : a'.1 192 0 = a.1 192 0 := hA.2 192 0 (Or.inr (Or.inr ⟨by decide, by decide, rfl⟩))
  show vk_R _ _ _ (a'.1 192 0) s
  rw [e]
  exact h.2.2
theorem Cx.ext {w w' : Wo} {M : MI} {p : Program} {s : State} {m : MethodId} {args : Array Value} {meth : Method} {c : Code} (h : Cx w M p s m args meth c) (h1 : w'.2 = w.2) (hA : Agr w w') : Cx w' M p s m args meth c := by
  obtain ⟨c1, c2, c3, c4, c5, c6, c7, c8, c9, c10, c11⟩ := h
  exact ⟨c1, c2, c3, c4, c5, c6, c7, c8, c9.ext h1 hA, by rw [h1]; exact c10, c11.ext h1 fun c h1 h2 => hA.2 c 0 (Or.inr (Or.inr ⟨h1, h2, rfl⟩))⟩
theorem Qcw_ext {Φ : Wo → Option PV → PH → Prop} {w w' : Wo} (h1 : w'.2 = w.2) : Qcw Φ w' = Qcw Φ w := by
  unfold Qcw Ab
  rw [h1]
theorem map_ext {w w' : Wo} {st : List PV} (hA : Agr w w') (h : ∀ v ∈ st, okv w.1.2 v) : st.map (rvv w') = st.map (rvv w) := List.map_congr_left fun v hv => rvv_ext hA (h v hv)
theorem Lr.ext {w w' : Wo} {pls : List (Option PV)} {ls : Array Slot} {nL : Nat} (hA : Agr w w') (hO : ∀ v, some v ∈ pls → okv w.1.2 v) (h : Lr w pls ls nL) : Lr w' pls ls nL := ⟨h.1, h.2.1, fun i v hv => by rw [rvv_ext hA (hO v (List.mem_of_getElem? hv))]; exact h.2.2 i v hv⟩
theorem noJ_sum (w : Wo) : ∀ (st : List PV), noJ st = true → ((st.map (rvv w)).map fun v => v.category).sum = st.length
  | [], _ => rfl
  | v :: l, h => by
    have h1 := noJ_cat w (v :: l) h (rvv w v) (List.mem_map.mpr ⟨v, List.mem_cons_self, rfl⟩)
    have hl : noJ l = true := by
      rcases v with n | (_ | q) | n
      · exact h
      · exact h
      · exact h
      · exact absurd h (by simp [noJ])
    have h2 := noJ_sum w l hl
    show (rvv w v).category + _ = _
    rw [h1]
    show 1 + ((l.map (rvv w)).map fun v => v.category).sum = l.length + 1
    omega
def ckC (n : Nat) (av st : List PV) (mL : Nat) : Bool := Nat.beq av.length n && (noJ av && (Nat.ble av.length mL && (Nat.ble mL 29 && (noJ st && Nat.ble st.length 8))))
theorem ckC_ok {n : Nat} {av st : List PV} {mL : Nat} (h : ckC n av st mL = true) : av.length = n ∧ noJ av = true ∧ av.length ≤ mL ∧ mL ≤ 29 ∧ noJ st = true ∧ st.length ≤ 8 := by
  unfold ckC at h
  simp only [Bool.and_eq_true, Nat.ble_eq] at h
  exact ⟨Nat.eq_of_beq_eq_true h.1, h.2.1, h.2.2.1, h.2.2.2.1, h.2.2.2.2.1, h.2.2.2.2.2⟩
def RKs (M M' : MI) (pc n pc' : Nat) : Prop := ∃ idx, decode M.2.1 pc = .ok (.invokestatic idx, 3) ∧ (Cond.methodLink M.1.cls idx M'.1 ∈ UW ∨ (M.1.cls, idx, M'.1) ∈ nestQ) ∧ (mokS M' n ∧ Cond.static M'.1 ∈ UW) ∧ pc + 3 = pc'
def RKv (M M' : MI) (pc n ci pc' : Nat) : Prop := ∃ idx, decode M.2.1 pc = .ok (.invokevirtual idx, 3) ∧ Cond.methodLink M.1.cls idx M'.1 ∈ UW ∧ mokV M' n ci ∧ Cond.selects M'.1.cls M'.1 M'.1 ∈ UW ∧ pc + 3 = pc'
def RKi (M M' : MI) (pc n ci pc' : Nat) : Prop := ∃ idx, decode M.2.1 pc = .ok (.invokespecial idx, 3) ∧ Cond.methodLink M.1.cls idx M'.1 ∈ UW ∧ mokV M' n ci ∧ M'.1.name = "<init>" ∧ M'.2.2.2 = none ∧ pc + 3 = pc'
section PWCALLS
variable {l : Launch} {w : Wo} {M M' : MI} {d K K' k pc pc' n : Nat} {ls : List (Option PV)} {st st0 av : List PV} {G : PH} {Φ Φc : Wo → Option PV → PH → Prop}
theorem pw_cont {p : Program} {e : Env} {s : State} {m : MethodId} {args : Array Value} {below : List Frame} {meth : Method} {c : Code} {lsr : Array Slot} (hC : Cx w M p s m args meth c) (hok : ∀ v, some v ∈ ls → okv w.1.2 v) (hst : ∀ v ∈ st, okv w.1.2 v) (hL : Lr w ls lsr M.2.2.1)
    (kk : ∀ w' r G', Φc w' r G' → Agr w w' ∧ PWg l w' M d K (k + K') pc' ls (pushR r st) G' Φ) :
    ∀ (w' : Wo) (r : Option PV) (G' : PH) (H1 : Heap) (locs1 : List Loc), Φc w' r G' → w'.2 = w.2 → Wd w' G' H1 → okG w'.1.2 G' → (∀ v, r = some v → okv w'.1.2 v) → va_S (Ab w) s.heap H1 locs1 →
      W p l e (rm d K) s m args below meth c H1 locs1 (k + K') (12 * k + 12 * K') (MQ below (Qcw Φ w) args s K (12 * K) (Ab w)) (F0 m pc' lsr ((r.map (rvv w')).toList ++ st.map (rvv w))) := by
  intro w' r G' H1 locs1 hΦ h2 hW hG hr hS
  obtain ⟨hA, h⟩ := kk w' r G' hΦ
  have hAb : Ab w' = Ab w := by unfold Ab; rw [h2]
  have h := h p e s m args below meth c H1 locs1 lsr (hC.ext h2 hA) hW ⟨hG, fun v hv => by
    cases r with
    | none => exact okv_mono hA.1 (hst v hv)
    | some z =>
      rcases List.mem_cons.mp hv with rfl | hv
      · exact hr _ rfl
      · exact okv_mono hA.1 (hst v hv), fun v hv => okv_mono hA.1 (hok v hv)⟩ (by rw [hAb]; exact hS) (hL.ext hA hok)
  rw [Qcw_ext h2, hAb] at h
  have e1 : (pushR r st).map (rvv w') = (r.map (rvv w')).toList ++ st.map (rvv w) := by
    cases r with
    | none => exact map_ext hA hst
    | some z =>
      show rvv w' z :: st.map (rvv w') = _
      rw [map_ext hA hst]
      rfl
  rw [e1, show 12 * (k + K') = 12 * k + 12 * K' by omega] at h
  exact h
theorem rok_of {mL : Nat} (hm : mL ≤ 29) (hk : k + K' ≤ K) : Rok (rm (d + 1) K) d K' k (12 * k) mL := ⟨Nat.le_refl _, by show _ ≤ 48 * (d + 1); omega, hk, by show _ ≤ 12 * K; omega⟩
theorem pw_callSg (hd : RKs M M' pc n pc') (hck : ckC n av st M'.2.2.1 = true) (hst : st0 = av.reverse ++ st) (hk : k + K' ≤ K) (hb : PWg l w M' d K' 0 0 (inl' M' av) [] G Φc)
    (kk : ∀ w' r G', Φc w' r G' → Agr w w' ∧ PWg l w' M (d + 1) K (k + K') pc' ls (pushR r st) G' Φ) : PWg l w M (d + 1) K k pc ls st0 G Φ := by
  subst hst
  obtain ⟨idx, hd, hlk, ok, rfl⟩ := hd
  obtain ⟨e1, e2, e3, e4, e5, e6⟩ := ckC_ok hck
  intro p e s m args below meth c H locs lsr hC hW hO hS hL
  have hst : ∀ v ∈ st, okv w.1.2 v := fun v hv => hO.2.1 v (List.mem_append_right _ hv)
  have hav : ∀ v ∈ av, okv w.1.2 v := fun v hv => hO.2.1 v (List.mem_append_left _ (List.mem_reverse.mpr hv))
  have hcont := pw_cont (pc' := pc + 3) (K' := K') (e := e) (below := below) hC hO.2.2 hst hL kk
  have ec : (st.map (rvv w)).map (fun v => v.category) = (st.map (rvv w)).map (fun v => v.category) := rfl
  have hcat : ((st.map (rvv w)).map fun v => v.category).sum ≤ 8 := by rw [noJ_sum w st e5]; exact e6
  have hrk := rok_of (d := d) (mL := M'.2.2.1) e4 hk
  have S : CallFix p m c M.2.1 M.2.2.1 s args UW M.1.cls := ⟨hC.1, hC.2.1, hC.2.2.2.1, hC.2.2.2.2.1, hC.2.2.2.2.2.1⟩
  have hpc := w_pcw (own := M.1.cls) (cc := M.2.1) (nL := 0) (Ts := UW) (av := av) hC.2.2.2.2.2.2.2.2.1 hC.2.2.2.2.2.2.2.2.2.2 hC.2.2.2.2.2.2.2.2.2.1 hW hO.1 hav hS
  rw [List.map_append, List.map_reverse]
  obtain ⟨⟨hcode, hini, ⟨hd1, hd2, hd3⟩, hpl⟩, hstt⟩ := ok
  have hts := hC.2.2.2.2.2.1
  have hM := pw_met hpl e2 e3 hb
  rcases hlk with hlk | hlk
  · exact w_after (va_runS (As := av.map (rvv w)) (rest := st.map (rvv w)) S hM (n := n) ⟨callB_of n hts (goodIn_UW (fun _ h => h) hcode) rfl rfl rfl (hts _ hini) (hts _ hlk) ⟨hd1, hd2, hd3⟩ ⟨hrk.1, hrk.2.1⟩, hts _ hstt⟩ ⟨Pcw_blind w G av, hpc⟩ rfl (by rw [List.length_map]; exact e1) hL.1 rfl (lv_room hcat) hd hrk.2.2) hS hcont
  · exact w_after (va_runSN (host := "NameRolls") (As := av.map (rvv w)) (rest := st.map (rvv w)) S hM (n := n) ⟨va_cnB n hts (goodIn_UW (fun _ h => h) hcode) rfl rfl rfl (hC.2.2.2.2.2.2.2.2.1.2.1 _ hlk) (hts _ hini) ⟨hd1, hd2, hd3⟩ ⟨hrk.1, hrk.2.1⟩, hts _ hstt, trivial⟩ ⟨Pcw_blind w G av, hpc⟩ rfl (by rw [List.length_map]; exact e1) hL.1 rfl (lv_room hcat) hd hrk.2.2) hS hcont
theorem pw_callVg {ci : Nat} {r0 : Int} (hd : RKv M M' pc n ci pc') (hck : ckC (n + 1) (vR ci r0 :: av) st M'.2.2.1 = true) (hst : st0 = av.reverse ++ vR ci r0 :: st) (hk : k + K' ≤ K) (hb : PWg l w M' d K' 0 0 (inl' M' (vR ci r0 :: av)) [] G Φc)
    (kk : ∀ w' r G', Φc w' r G' → Agr w w' ∧ PWg l w' M (d + 1) K (k + K') pc' ls (pushR r st) G' Φ) : PWg l w M (d + 1) K k pc ls st0 G Φ := by
  subst hst
  obtain ⟨idx, hd, hlk, ⟨⟨hcode, hini, ⟨hd1, hd2, hd3⟩, hpl⟩, hins, q, hq, hqn⟩, hsel, rfl⟩ := hd
  obtain ⟨e1, e2, e3, e4, e5, e6⟩ := ckC_ok hck
  intro p e s m args below meth c H locs lsr hC hW hO hS hL
  have hst : ∀ v ∈ st, okv w.1.2 v := fun v hv => hO.2.1 v (List.mem_append_right _ (List.mem_cons_of_mem _ hv))
  have hrv : okv w.1.2 (vR ci r0) := hO.2.1 _ (List.mem_append_right _ List.mem_cons_self)
  have hav : ∀ v ∈ vR ci r0 :: av, okv w.1.2 v := fun v hv => by
    rcases List.mem_cons.mp hv with rfl | hv
    · exact hrv
    · exact hO.2.1 v (List.mem_append_left _ (List.mem_reverse.mpr hv))
  have hcont := pw_cont (pc' := pc + 3) (K' := K') (e := e) (below := below) hC hO.2.2 hst hL kk
  have hcat : ((st.map (rvv w)).map fun v => v.category).sum ≤ 8 := by rw [noJ_sum w st e5]; exact e6
  have hrk := rok_of (d := d) (mL := M'.2.2.1) e4 hk
  have S : CallFix p m c M.2.1 M.2.2.1 s args UW M.1.cls := ⟨hC.1, hC.2.1, hC.2.2.2.1, hC.2.2.2.2.1, hC.2.2.2.2.2.1⟩
  have hpc := w_pcw (own := M.1.cls) (cc := M.2.1) (nL := 0) (Ts := UW) hC.2.2.2.2.2.2.2.2.1 hC.2.2.2.2.2.2.2.2.2.2 hC.2.2.2.2.2.2.2.2.2.1 hW hO.1 hav hS
  have hts := hC.2.2.2.2.2.1
  have hM := pw_met hpl e2 e3 hb
  obtain ⟨-, -, hsh⟩ := cls_sh ci q hq
  obtain ⟨i0, -, h0⟩ := wl_at (w := w) (G := G) (cs_mem hrv (by rw [hsh]; exact Nat.zero_le _))
  rw [ent_o hsh] at h0
  have hrecv := va_recv hC.2.2.2.2.2.2.2.2.1.1 hW.1 hq h0
  rw [hqn] at hrecv
  rw [List.map_append, List.map_reverse]
  exact w_after (va_runV (As := av.map (rvv w)) (rest := st.map (rvv w)) (C := M'.1.cls) S hM (n := n) ⟨callB_of n hts (goodIn_UW (fun _ h => h) hcode) rfl rfl rfl (hts _ hini) (hts _ hlk) ⟨hd1, hd2, hd3⟩ ⟨hrk.1, hrk.2.1⟩, hts _ hins, hts _ hsel⟩ ⟨Pcw_blind w G _, hrecv, hpc⟩ rfl (by rw [List.length_map]; exact Nat.succ.inj e1) hL.1 rfl (lv_room hcat) hd hrk.2.2) hS hcont
theorem pw_callIg {ci : Nat} {r0 : Int} (hd : RKi M M' pc n ci pc') (hck : ckC (n + 1) (vR ci r0 :: av) st M'.2.2.1 = true) (hst : st0 = av.reverse ++ vR ci r0 :: st) (hk : k + K' ≤ K) (hb : PWg l w M' d K' 0 0 (inl' M' (vR ci r0 :: av)) [] G Φc)
    (kk : ∀ w' r G', Φc w' r G' → Agr w w' ∧ PWg l w' M (d + 1) K (k + K') pc' ls (pushR r st) G' Φ) : PWg l w M (d + 1) K k pc ls st0 G Φ := by
  subst hst
  obtain ⟨idx, hd, hlk, ⟨⟨hcode, hini, ⟨hd1, hd2, hd3⟩, hpl⟩, hins, q, hq, hqn⟩, hnm, hrt, rfl⟩ := hd
  obtain ⟨e1, e2, e3, e4, e5, e6⟩ := ckC_ok hck
  intro p e s m args below meth c H locs lsr hC hW hO hS hL
  have hst : ∀ v ∈ st, okv w.1.2 v := fun v hv => hO.2.1 v (List.mem_append_right _ (List.mem_cons_of_mem _ hv))
  have hrv : okv w.1.2 (vR ci r0) := hO.2.1 _ (List.mem_append_right _ List.mem_cons_self)
  have hav : ∀ v ∈ vR ci r0 :: av, okv w.1.2 v := fun v hv => by
    rcases List.mem_cons.mp hv with rfl | hv
    · exact hrv
    · exact hO.2.1 v (List.mem_append_left _ (List.mem_reverse.mpr hv))
  have hcont := pw_cont (pc' := pc + 3) (K' := K') (e := e) (below := below) hC hO.2.2 hst hL kk
  have hcat : ((st.map (rvv w)).map fun v => v.category).sum ≤ 8 := by rw [noJ_sum w st e5]; exact e6
  have hrk := rok_of (d := d) (mL := M'.2.2.1) e4 hk
  have S : CallFix p m c M.2.1 M.2.2.1 s args UW M.1.cls := ⟨hC.1, hC.2.1, hC.2.2.2.1, hC.2.2.2.2.1, hC.2.2.2.2.2.1⟩
  have hpc := w_pcw (own := M.1.cls) (cc := M.2.1) (nL := 0) (Ts := UW) hC.2.2.2.2.2.2.2.2.1 hC.2.2.2.2.2.2.2.2.2.2 hC.2.2.2.2.2.2.2.2.2.1 hW hO.1 hav hS
  have hts := hC.2.2.2.2.2.1
  have hM := pw_met hpl e2 e3 hb
  rw [List.map_append, List.map_reverse]
  rw [hrt] at hcode
  have hG : GoodIn UW (wsM M') := goodIn_UW (fun _ h => h) (by rw [hrt]; exact hcode)
  exact w_after (va_runI (As := av.map (rvv w)) (rest := st.map (rvv w)) S hM (n := n) ⟨callB_of n hts hG (by unfold wsM; rw [hrt]) rfl rfl (hts _ hini) (hts _ hlk) ⟨hd1, hd2, hd3⟩ ⟨hrk.1, hrk.2.1⟩, hnm, hts _ hins⟩ ⟨Pcw_blind w G _, hpc⟩ rfl (by rw [List.length_map]; exact Nat.succ.inj e1) hL.1 rfl (lv_room hcat) hd hrk.2.2) hS hcont
/-! calls of methods that make no person -/
theorem pw_callS {ls0 : List (Option PV)} (hd : RKs M M' pc n pc') (hck : ckC n av st M'.2.2.1 = true) (hst : st0 = av.reverse ++ st) (hl0 : inl' M' av = ls0) (hk : k ≤ K) (hb : PW l w M' d 0 ls0 [] G (fun r G' => PWg l w M (d + 1) K k pc' ls (pushR r st) G' Φ)) : PWg l w M (d + 1) K k pc ls st0 G Φ := by
  subst hl0
  exact pw_callSg hd hck hst (K' := 0) hk hb fun w' r G' h => by rw [h.1]; exact ⟨Agr.rf w, h.2⟩
theorem pw_callV {ls0 : List (Option PV)} {ci : Nat} {r0 : Int} (hd : RKv M M' pc n ci pc') (hck : ckC (n + 1) (vR ci r0 :: av) st M'.2.2.1 = true) (hst : st0 = av.reverse ++ vR ci r0 :: st) (hl0 : inl' M' (vR ci r0 :: av) = ls0) (hk : k ≤ K) (hb : PW l w M' d 0 ls0 [] G (fun r G' => PWg l w M (d + 1) K k pc' ls (pushR r st) G' Φ)) : PWg l w M (d + 1) K k pc ls st0 G Φ := by
  subst hl0
  exact pw_callVg hd hck hst (K' := 0) hk hb fun w' r G' h => by rw [h.1]; exact ⟨Agr.rf w, h.2⟩
theorem pw_callI {ls0 : List (Option PV)} {ci : Nat} {r0 : Int} (hd : RKi M M' pc n ci pc') (hck : ckC (n + 1) (vR ci r0 :: av) st M'.2.2.1 = true) (hst : st0 = av.reverse ++ vR ci r0 :: st) (hl0 : inl' M' (vR ci r0 :: av) = ls0) (hk : k ≤ K) (hb : PW l w M' d 0 ls0 [] G (fun r G' => PWg l w M (d + 1) K k pc' ls (pushR r st) G' Φ)) : PWg l w M (d + 1) K k pc ls st0 G Φ := by
  subst hl0
  exact pw_callIg hd hck hst (K' := 0) hk hb fun w' r G' h => by rw [h.1]; exact ⟨Agr.rf w, h.2⟩
end PWCALLS
