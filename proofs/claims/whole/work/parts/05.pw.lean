/-! Runs of a method over the pure picture. -/
def tysL (w : Wo) : List (ClassId × FieldType) := (List.range 8).map fun t => (w.2.2.1 t, aty t)
theorem tys_at {w : Wo} {t : Nat} (h : t < 8) : (tysL w)[t]? = some (w.2.2.1 t, aty t) := by unfold tysL; rw [List.getElem?_map, List.getElem?_range h]; rfl
def abT : List Int := [-1, 0, 1, 1, 1, 1, 1, 4]
def boT : List Int := [10, 11, 12, 20, 0, 0, 0, 30, 0, 0, 0, 40, 50, 0, 51, 0, 60, 0, 70, 0, 0, 81, 80, 0]
def tbV (l : List Int) : Nat → Value := fun j => .int (Int32.ofInt (l.getD j 0))
def strB : List Int32 := [107, 103, 121, 110, 97, 100, 98, 99, 116]
def Ro (w : Wo) (s : State) (H : Heap) : Prop :=
  va_Z "NameRolls$Person" "ABOVE" "[I" (.ref (w.1.1 190 0)) (Ab w) s H ∧ va_T .int (w.1.1 190 0) 8 (tbV abT) (Ab w) s H ∧
  va_Z "NameRolls$Person" "BODIES" "[I" (.ref (w.1.1 191 0)) (Ab w) s H ∧ va_T .int (w.1.1 191 0) 24 (tbV boT) (Ab w) s H ∧
  vk_S 1 [9] [strB] (fun _ => w.1.1 192 0) (fun _ => w.1.1 193 0) (Ab w) s H ∧ va_Z "java/lang/String" "COMPACT_STRINGS" "Z" (.int 1) (Ab w) s H
theorem Ro.kept {w : Wo} {s : State} {H H1 : Heap} (h : Ro w s H) (hq : ∀ a : Nat, a < H.size → ¬ Ab w a → H1[a]? = H[a]?) : Ro w s H1 := by
  obtain ⟨h1, h2, h3, h4, h5, h6⟩ := h
  exact ⟨h1.kept hq, h2.kept hq, h3.kept hq, h4.kept hq, h5.kept hq, h6.kept hq⟩
theorem Ro.moved {w : Wo} {u U : State} {H : Heap} (hvm : u.vm.Alike U.vm) (h : Ro w u H) : Ro w U H := by
  obtain ⟨h1, h2, h3, h4, h5, h6⟩ := h
  exact ⟨h1.moved hvm, h2.moved hvm, h3.moved hvm, h4.moved hvm, h5.moved hvm, h6.moved hvm⟩
/-- a world that has more rows, the fixed cells where they were -/
theorem Ro.ext {w w' : Wo} {s : State} {H : Heap} (h : Ro w s H) (h1 : w'.2 = w.2) (h2 : ∀ c, 190 ≤ c → c < 194 → w'.1.1 c 0 = w.1.1 c 0) : Ro w' s H := by
  obtain ⟨α, r⟩ := w
  obtain ⟨α', r'⟩ := w'
  cases h1
  unfold Ro at h ⊢
  rw [h2 190 (by omega) (by omega), h2 191 (by omega) (by omega), h2 192 (by omega) (by omega), h2 193 (by omega) (by omega)]
  exact h
def nw (q : String × Nat × MethodName) : Cond := .methodLinkNest q.1 q.2.1 q.2.2 "NameRolls"
def Kw (w : Wo) (s : State) : Prop := va_K w.2.1 classes (tysL w) s ∧ (∀ q ∈ nestQ, va_Nw (nw q) s) ∧ vk_R "NameRolls$Reader" 65 "kgynadbct" (w.1.1 192 0) s
theorem Kw.warm {w : Wo} {s U : State} (hW : s.WarmedH U.vm) (h : Kw w s) : Kw w U := ⟨va_K.moved hW.alike h.1, fun q hq => va_Nw.warmM hW (h.2.1 q hq), vk_R.warm hW h.2.2⟩
theorem Kw.same {w : Wo} {s U : State} (hv : s.vm = U.vm) (h : Kw w s) : Kw w U := ⟨va_K.moved (by rw [hv]; exact Vm.Alike.refl _) h.1, fun q hq => va_Nw.same rfl hv (h.2.1 q hq), vk_R.same hv.symm h.2.2⟩
def okv (np : Nat) : PV → Prop
  | .inl n => iR n
  | .inr (.inl none) => True
  | .inr (.inl (some q)) => lv np q.1 q.2
  | .inr (.inr n) => -9223372036854775808 ≤ n ∧ n < 9223372036854775808
def okG (np : Nat) (G : PH) : Prop := (∀ c r k, iR (gF G c r k)) ∧ (∀ c r i, iR (gA G c r i)) ∧ ∀ c r i q, gD G c r i = some q → lv np q.1 q.2
def noJ : List PV → Bool
  | [] => true
  | .inr (.inr _) :: _ => false
  | _ :: l => noJ l
def Pcw (w : Wo) (G : PH) (av : List PV) : Array Value → State → Prop := fun v U => v = (av.map (rvv w)).toArray ∧ Kw w U ∧ Wd w G U.heap ∧ okG w.1.2 G ∧ (∀ x ∈ av, okv w.1.2 x) ∧ w.2.2.2 ≤ U.heap.size ∧ Ro w U U.heap
def Qcw (Φ : Wo → Option PV → PH → Prop) (w : Wo) : Array Value → State → Outcome → State → Prop := fun _ st o t =>
  (∃ (w' : Wo) (r : Option PV) (G' : PH), Φ w' r G' ∧ w'.2 = w.2 ∧ o = .returned (r.map (rvv w')) ∧ Wd w' G' t.heap ∧ okG w'.1.2 G' ∧ ∀ v, r = some v → okv w'.1.2 v) ∧ va_F (Ab w) st t
def rm (d K : Nat) : Room := { frames := d, cells := K, slots := 12 * K, locals := 48 * d }
def Lr (w : Wo) (pls : List (Option PV)) (ls : Array Slot) (nL : Nat) : Prop := ls.size = nL ∧ lv_wf ls ∧ ∀ (i : Nat) (v : PV), pls[i]? = some (some v) → ls[i]? = some (.val (rvv w v))
def Cx (w : Wo) (M : MI) (p : Program) (s : State) (m : MethodId) (args : Array Value) (meth : Method) (c : Code) : Prop :=
  p.tables.exec = Jvm.exec ∧ c.code = M.2.1 ∧ meth.sig.returnType = M.2.2.2 ∧ c.maxLocals = M.2.2.1 ∧ s.vm.findClass M.1.cls = some m.cls ∧ (∀ x ∈ UW, x.before args s = true) ∧ meth.locks = false ∧ meth.name = M.1.name ∧ Kw w s ∧ w.2.2.2 ≤ s.heap.size ∧ Ro w s s.heap
def OKs (w : Wo) (G : PH) (ls : List (Option PV)) (st : List PV) : Prop := okG w.1.2 G ∧ (∀ v ∈ st, okv w.1.2 v) ∧ ∀ v, some v ∈ ls → okv w.1.2 v
/-- from here on the method comes to its end, with an answer and a heap as Φ says; K persons may be made, k were -/
def PWg (l : Launch) (w : Wo) (M : MI) (d K k pc : Nat) (ls : List (Option PV)) (st : List PV) (G : PH) (Φ : Wo → Option PV → PH → Prop) : Prop :=
  ∀ (p : Program) (e : Env) (s : State) (m : MethodId) (args : Array Value) (below : List Frame) (meth : Method) (c : Code) (H : Heap) (locs : List Loc) (lsr : Array Slot),
    Cx w M p s m args meth c → Wd w G H → OKs w G ls st → va_S (Ab w) s.heap H locs → Lr w ls lsr M.2.2.1 →
    W p l e (rm d K) s m args below meth c H locs k (12 * k) (MQ below (Qcw Φ w) args s K (12 * K) (Ab w)) (F0 m pc lsr (st.map (rvv w)))
abbrev PW (l : Launch) (w : Wo) (M : MI) (d pc : Nat) (ls : List (Option PV)) (st : List PV) (G : PH) (P : Option PV → PH → Prop) : Prop :=
  PWg l w M d 0 0 pc ls st G (fun w' r G' => w' = w ∧ P r G')
def inl' (M : MI) (av : List PV) : List (Option PV) := av.map some ++ List.replicate (M.2.2.1 - av.length) none
theorem noJ_cat (w : Wo) : ∀ (av : List PV), noJ av = true → ∀ v ∈ av.map (rvv w), v.category = 1
  | [], _, v, hv => by cases hv
  | x :: l, h, v, hv => by
    have hl : noJ l = true := by
      rcases x with n | (_ | q) | n
      · exact h
      · exact h
      · exact h
      · exact absurd h (by simp [noJ])
    rcases List.mem_cons.mp hv with rfl | hv
    · rcases x with n | (_ | q) | n
      · rfl
      · rfl
      · rfl
      · exact absurd h (by simp [noJ])
    · exact noJ_cat w l hl v hv
theorem sl_cat1 : ∀ (vs : List Value), (∀ v ∈ vs, v.category = 1) → lg_sl vs = vs.map Slot.val
  | [], _ => rfl
  | v :: l, h => by
    have h1 : v.category = 1 := h v List.mem_cons_self
    have h2 := sl_cat1 l (fun x hx => h x (List.mem_cons_of_mem _ hx))
    show (if v.category = 2 then [Slot.val v, .second] else [.val v]) ++ lg_sl l = _
    rw [if_neg (by omega), h2]
    rfl
theorem goodIn_UW {big : List Cond} {M : MI} (hb : ∀ x ∈ UW, x ∈ big) (hM : Cond.code M.1 M.2.1 M.2.2.1 M.2.2.2 ∈ UW) : GoodIn big (wsM M) := by
  have key : ∀ x ∈ UW, x ∈ big ∧ ((x.onTables && x.keeps) = true ∨ ∃ ty, x = .arrayClass ty) := fun x hx => ⟨hb x hx, good_of_word (List.mem_filter.mp hx).2⟩
  intro x hx
  rcases List.mem_cons.mp hx with rfl | hx
  · exact key _ hM
  · exact key x hx
theorem pw_met {l : Launch} {w : Wo} {M : MI} {d K : Nat} {av : List PV} {G : PH} {Φ : Wo → Option PV → PH → Prop} (hy : plainName M.1.cls = true) (hj : noJ av = true) (hn : av.length ≤ M.2.2.1) (h : PWg l w M d K 0 0 (inl' M av) [] G Φ) :
    Met l M.1 (wsM M) (rm d K) (Pcw w G av) (Qcw Φ w) K (12 * K) (Ab w) := by
  refine Met.ofW (cc := M.2.1) (maxL := M.2.2.1) (ret := M.2.2.2) hy rfl ?_
  intro p e s m args below meth c s₁ B hml hv
  obtain ⟨rfl, hK, hW, hG, hav, hbs, hR⟩ := hv
  have hts := atoms_spec (ws := wsM M) B.pre
  have hown : s.vm.findClass M.1.cls = some m.cls := findClass_of_methodNamed B.named
  have hcat := noJ_cat w av hj
  have hsl := sl_cat1 _ hcat
  rw [lg_entry_eq]
  have hl := lv_entry (av.map (rvv w)) (n := M.2.2.1) (by rw [hsl, List.length_map, List.length_map]; exact hn)
  rw [hsl] at hl ⊢
  refine h p e s m _ below meth c s.heap [] _ ⟨B.exec, B.bytes, B.returns, hml, hown, fun x hx => hts x (List.mem_cons_of_mem _ hx), B.notSynchronized, (name_of_methodNamed B.named B.method).1, hK, hbs, hR⟩ hW ⟨hG, (fun v hv => by cases hv), fun v hv => ?_⟩ va_S.rf ⟨hl.1, hl.2.1, fun i v hi => ?_⟩
  · unfold inl' at hv
    rcases List.mem_append.mp hv with h1 | h1
    · obtain ⟨x, hx, e⟩ := List.mem_map.mp h1
      cases e
      exact hav _ hx
    · have := (List.mem_replicate.mp h1).2
      cases this
  · unfold inl' at hi
    by_cases hlt : i < av.length
    · rw [List.getElem?_append_left (by rw [List.length_map]; exact hlt), List.getElem?_map] at hi
      cases hx : av[i]? with
      | none => rw [hx] at hi; cases hi
      | some x =>
        rw [hx] at hi
        cases hi
        rw [List.getElem?_toArray, List.getElem?_append_left (by rw [List.length_map, List.length_map]; exact hlt), List.getElem?_map, List.getElem?_map, hx]
        rfl
    · rw [List.getElem?_append_right (by rw [List.length_map]; omega)] at hi
      have := (List.mem_replicate.mp (List.mem_of_getElem? hi)).2
      cases this
theorem Pcw_blind (w : Wo) (G : PH) (av : List PV) : FrameBlind (Pcw w G av) := by
  intro a U g mk q
  obtain ⟨q1, q2, q3, q4, q5, q6, q7⟩ := q
  exact ⟨q1, Kw.same (s := U) (U := U.calling g mk a) rfl q2, q3, q4, q5, q6, Ro.moved (u := U) (U := U.calling g mk a) (Vm.Alike.refl _) q7⟩
section CALLS
variable {p : Program} {l : Launch} {e : Env} {R : Room} {s : State} {m : MethodId} {args : Array Value} {below : List Frame} {meth : Method} {c : Code} {H : Heap} {locs : List Loc} {cells slots : Nat} {Q : State → Prop}
theorem w_after {w : Wo} {Φ : Wo → Option PV → PH → Prop} {a : Array Value} {mc ms pc : Nat} {ls : Array Slot} {st0 rest : List Value} (hr : va_Run p l e R s m args below meth c H locs cells slots mc ms (F0 m pc ls st0) rest (Qcw Φ w a) (Ab w)) (hS : va_S (Ab w) s.heap H locs)
    (kk : ∀ (w' : Wo) (r : Option PV) (G' : PH) (H1 : Heap) (locs1 : List Loc), Φ w' r G' → w'.2 = w.2 → Wd w' G' H1 → okG w'.1.2 G' → (∀ v, r = some v → okv w'.1.2 v) → va_S (Ab w) s.heap H1 locs1 →
      W p l e R s m args below meth c H1 locs1 (cells + mc) (slots + ms) Q (F0 m (pc + 3) ls ((r.map (rvv w')).toList ++ rest))) : W p l e R s m args below meth c H locs cells slots Q (F0 m pc ls st0) := by
  intro T hT X
  obtain ⟨v, st₀, t, T', L, h0, X', hL, e1, e2, ⟨⟨w', r, G', hΦ, hw, hv, hWd, hG, hok⟩, hz, hk⟩, st⟩ := hr T hT X
  cases hv
  rw [h0] at hz hk
  obtain ⟨t2, a1, b1⟩ := kk w' r G' T'.heap (locs ++ L) hΦ hw (by rw [e1]; exact hWd) hG hok
    ⟨Nat.le_trans hS.1 (by rw [e1]; exact hz), fun q h1 h2 => by rw [e1, hk q (Nat.lt_of_lt_of_le h1 hS.1) h2]; exact hS.2.1 q h1 h2, fun q hq => by
      rcases List.mem_append.mp hq with h | h
      · exact hS.2.2 q h
      · exact hL q h⟩ T' rfl X'
  exact ⟨t2, st t2 a1, b1⟩
/-- what a caller must have for a call at depth d -/
def Rok (R : Room) (d K cells slots maxL : Nat) : Prop := d + 1 ≤ R.frames ∧ 8 + (maxL + 11) + 48 * d ≤ R.locals ∧ cells + K ≤ R.cells ∧ slots + 12 * K ≤ R.slots
/-- what holds of the callee's start -/
theorem w_pcw {w : Wo} {G : PH} {av : List PV} {own : String} {cc : ByteArray} {nL : Nat} {Ts : List Cond} (hK : Kw w s) (hR : Ro w s s.heap) (hbs : w.2.2.2 ≤ s.heap.size) (hW : Wd w G H) (hG : okG w.1.2 G) (hav : ∀ x ∈ av, okv w.1.2 x) (hS : va_S (Ab w) s.heap H locs) :
    ∀ U : State, U.heap = H → s.WarmedH U.vm → Pcw w G av (av.map (rvv w)).toArray U := by
  intro U hU hWm
  refine ⟨rfl, hK.warm hWm, by rw [hU]; exact hW, hG, hav, by rw [hU]; exact Nat.le_trans hbs hS.1, ?_⟩
  rw [hU]
  exact (hR.kept hS.2.1).moved hWm.alike
theorem w_callS {w : Wo} {M' : MI} {d K n idx pc nL : Nat} {av : List PV} {rest : List Value} {G : PH} {Φ : Wo → Option PV → PH → Prop} {own : String} {cc : ByteArray} {ls : Array Slot} {Ts : List Cond}
    (S : CallFix p m c cc nL s args Ts own) (hU : ∀ x ∈ UW, x ∈ Ts) (hK : Kw w s) (hR : Ro w s s.heap) (hbs : w.2.2.2 ≤ s.heap.size) (hW : Wd w G H) (hG : okG w.1.2 G) (hS : va_S (Ab w) s.heap H locs) (hsz : ls.size = nL)
    (ok : mokS M' n ∧ Cond.static M'.1 ∈ UW) (hl : Cond.methodLink own idx M'.1 ∈ UW) (hn : av.length = n) (hj : noJ av = true) (hL : av.length ≤ M'.2.2.1) (hav : ∀ x ∈ av, okv w.1.2 x) (hroom : Rok R d K cells slots M'.2.2.1) (hcat : (rest.map fun v => v.category).sum ≤ 8)
    (hdg : decode cc pc = .ok (.invokestatic idx, 3)) (hb : PWg l w M' d K 0 0 (inl' M' av) [] G Φ)
    (kk : ∀ (w' : Wo) (r : Option PV) (G' : PH) (H1 : Heap) (locs1 : List Loc), Φ w' r G' → w'.2 = w.2 → Wd w' G' H1 → okG w'.1.2 G' → (∀ v, r = some v → okv w'.1.2 v) → va_S (Ab w) s.heap H1 locs1 →
      W p l e R s m args below meth c H1 locs1 (cells + K) (slots + 12 * K) Q (F0 m (pc + 3) ls ((r.map (rvv w')).toList ++ rest))) :
    W p l e R s m args below meth c H locs cells slots Q (F0 m pc ls ((av.map (rvv w)).reverse ++ rest)) := by
  obtain ⟨⟨hcode, hini, ⟨hd1, hd2, hd3⟩, hpl⟩, hst⟩ := ok
  have hts := S.2.2.2.2
  refine w_after (va_runS (As := av.map (rvv w)) (rest := rest) S (pw_met hpl hj hL hb) (n := n) ⟨callB_of n hts (goodIn_UW hU hcode) rfl rfl rfl (hts _ (hU _ hini)) (hts _ (hU _ hl)) ⟨hd1, hd2, hd3⟩ ⟨hroom.1, hroom.2.1⟩, hts _ (hU _ hst)⟩ ⟨Pcw_blind w G av, ?_⟩ rfl (by rw [List.length_map]; exact hn) hsz rfl (lv_room hcat) hdg hroom.2.2) hS kk
  exact w_pcw (own := own) (cc := cc) (nL := nL) (Ts := Ts) hK hR hbs hW hG hav hS
end CALLS
