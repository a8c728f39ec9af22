theorem new_at {w : Wo} {s : State} {args : Array Value} {c2 : Nat} {q : vw_C} {H1 : Heap} {kC : Class} (hU : ∀ x ∈ UW, x.before args s = true) (hK : Kw w s) (hc : classes[c2]? = some q) (hkC : s.vm.classes[w.2.1.1 c2]? = some kC) (e1 : H1[w.1.1 c2 0]? = some (blank (w.2.1.1 c2) kC)) : va_at w.2.1 classes (w.1.1 c2 0, .inr (c2, zsC c2)) H1 := by
  obtain ⟨o1, o2, o3⟩ := cls_ok c2 _ hc
  obtain ⟨-, -, hsh⟩ := cls_sh c2 q hc
  have hKn := hK.1.1 c2 _ hc
  refine ⟨q, hc, ?_⟩
  refine (u_born (tyC c2) hU o1 hKn hkC e1 o2).to fun j hj => ?_
  unfold zsC vp_V
  rw [hsh]
  show defaultValue (tyC c2 j) = ((List.range q.2.2).map fun k => defaultValue (tyC c2 k)).getD j .null
  rw [List.getD_eq_getElem?_getD, List.getElem?_map, List.getElem?_range hj]
  rfl
set_option maxRecDepth 10000 in
/-- from the entry, for every script of at most 384 ints, the law comes to its end with true -/
theorem whole_start {p : Program} {e : Env} {s : State} {m : MethodId} {below : List Frame} {meth : Method} {c : Code} (l : Launch) (hflags : l.flags = flags0) {b L : Nat} {xs : Nat → Int32} (hL : L ≤ 384) (C0 : lw_At p s m meth c b L xs) : W p l e room_1 s m #[Value.ref b] below meth c s.heap [] 0 0 (lw_Z below #[Value.ref b] s) (entryFrame m ([Value.ref b] : List Value).toArray 4) := by
  obtain ⟨hx, hb, hr, hml, hown, hts, hX, hbl, hlocks, hgv⟩ := id C0
  obtain ⟨w, h0, hbase, hw, hK, hB, hR⟩ := entry hts hgv
  have hU : ∀ x ∈ UW, x.before #[Value.ref b] s = true := fun x hx => hts x (List.mem_filter.mp hx).1
  have S : CallFix p m c code 4 s #[Value.ref b] UW R_law := ⟨hx, hb, hml, hown, hU⟩
  have hA : ∀ q : Nat, s.heap.size ≤ q → Ab w q := fun q h => by show w.2.2.2 ≤ q; omega
  have hS0 : va_S (Ab w) s.heap s.heap [] := va_S.rf
  have a11 : w.1.1 11 0 = s.heap.size := by rw [hw _ _ (by decide), hbase]; rfl
  have a12 : w.1.1 12 0 = s.heap.size + 232 := by rw [hw _ _ (by decide), hbase]; rfl
  have hl := lv_entry ([.ref b]) (n := 4) (Nat.le_of_ble_eq_true rfl)
  rw [lg_entry_eq]
  generalize (lg_sl ([.ref b]) ++ List.replicate (4 - (lg_sl ([.ref b])).length) Slot.unset).toArray = ls at hl ⊢
  have hl : lv_has ls 4 [(0, .ref b)] := hl
  refine W.newcK (H := s.heap) hx hb hown (hU _ wd_clLaw_7) (hU _ wd_inst11) (hU _ wd_ini11) (g := F0 m 0 ls []) rfl dl_0 (Nat.le_of_ble_eq_true rfl) (Nat.le_of_ble_eq_true rfl) (hK.1.1 11 _ rfl).2.1 (h := s.heap.size) rfl fun H1 kC hkC e1 z1 ho => ?_
  have hx1 := new_at (q := (RX11, TX11, 9)) hU hK rfl hkC (by rw [a11]; exact e1)
  have hS1 : va_S (Ab w) s.heap H1 [] := ⟨by omega, fun q h1 _ => ho q h1, fun q h => absurd h List.not_mem_nil⟩
  refine lv_dup hx hb dl_3 rfl ?_
  have ok1 := ok_M_X11_init
  have hrun := va_runI (p := p) (l := l) (e := e) (R := room_1) (s := s) (m := m) (args := #[Value.ref b]) (below := below) (meth := meth) (c := c) (H := H1) (locs := []) (cells := 0 + 1) (slots := 0 + 9) (b := s.heap.size) (As := []) (rest := [.ref s.heap.size]) (index := 9) (n := 0) (g := F0 m 4 ls [.ref s.heap.size, .ref s.heap.size]) S (ctor_11 (l := l) hw) ⟨callB_of 0 S.2.2.2.2 (goodIn_UW (fun _ h => h) ok1.1.1) rfl rfl rfl (hU _ ok1.1.2.1) (hU _ wd_mLaw_9) ok1.1.2.2.1 ⟨Nat.le_of_ble_eq_true rfl, Nat.le_of_ble_eq_true rfl⟩, rfl, hU _ ok1.2.1⟩ ⟨PcB_blind w _ _ _, fun U hU2 hWm => ⟨by show #[Value.ref s.heap.size] = #[Value.ref (w.1.1 11 0)]; rw [a11], hK.warm hWm, hB.moved hWm.alike, by rw [hU2]; exact (hR.kept fun a h1 _ => ho a h1).moved hWm.alike, by rw [hU2, z1, hbase], by rw [hU2]; exact hx1⟩⟩ rfl rfl hl.1 rfl (lv_room (Nat.le_of_ble_eq_true rfl)) dl_4 ⟨by show _ ≤ 600000; omega, by show _ ≤ 7302250; omega⟩
  refine wb_after hrun hS1 (fun q h => ?_) fun H2 locs2 hF hz2 hk2 hS2 => ?_
  · rcases h with rfl | h
    · rw [a11]; exact hA _ (Nat.le_refl _)
    · show w.2.2.2 ≤ q
      omega
  obtain ⟨hF1, hF2⟩ := hF
  refine lv_astore_n (lv' := [(1, .ref (w.1.1 11 0)), (0, .ref b)]) hx hb dl_7 rfl hl (by decide) (by rw [a11]; rfl) (fun ls hl => ?_)
  refine W.newcK (H := H2) hx hb hown (hU _ wd_clLaw_10) (hU _ wd_inst12) (hU _ wd_ini12) (g := F0 m 8 ls []) rfl dl_8 (Nat.le_of_ble_eq_true rfl) (Nat.le_of_ble_eq_true rfl) (hK.1.1 12 _ rfl).2.1 (h := H2.size) rfl fun H3 kC3 hkC3 e3 z3 ho3 => ?_
  have a12' : w.1.1 12 0 = H2.size := by omega
  have hx3 := new_at (q := (RX12, TX12, 109)) hU hK rfl hkC3 (by rw [a12']; exact e3)
  have hS3 : va_S (Ab w) s.heap H3 locs2 := ⟨by have := hS2.1; omega, fun q h1 h2 => (ho3 q (by have := hS2.1; omega)).trans (hS2.2.1 q h1 h2), hS2.2.2⟩
  have hP3 : va_P w.2.1 classes (wW w gt 12 109 [] lcN) H3 := by
    refine vaP_mem.mpr fun x hx => ?_
    rcases List.mem_cons.mp hx with rfl | hx
    · rw [fD_0 w gt 12 (by decide +kernel)]
      exact hx3
    · have hF3 : va_P w.2.1 classes (((11, 0) :: lc11).map (eA w gt)) H3 := hF2.kept fun k q hq => ho3 q.1 ((hF2 k q hq).lt)
      exact vaP_mem.mp hF3 x hx
  refine lv_dup hx hb dl_11 rfl ?_
  have ok2 := ok_M_X12_init
  have hrun2 := va_runI (p := p) (l := l) (e := e) (R := room_1) (s := s) (m := m) (args := #[Value.ref b]) (below := below) (meth := meth) (c := c) (H := H3) (locs := locs2) (cells := 0 + 1 + 231 + 1) (slots := 0 + 9 + 12237 + 109) (b := H2.size) (As := []) (rest := [.ref H2.size]) (index := 12) (n := 0) (g := F0 m 12 ls [.ref H2.size, .ref H2.size]) S (ctor_M (l := l) hw h0 (P := fun r G' => r = none ∧ Inv 0 G' G') ⟨rfl, inv_gs⟩) ⟨callB_of 0 S.2.2.2.2 (goodIn_UW (fun _ h => h) ok2.1.1) rfl rfl rfl (hU _ ok2.1.2.1) (hU _ wd_mLaw_12) ok2.1.2.2.1 ⟨Nat.le_of_ble_eq_true rfl, Nat.le_of_ble_eq_true rfl⟩, rfl, hU _ ok2.2.1⟩ ⟨PcL_blind w _ _ _, fun U hU2 hWm => ⟨by show #[Value.ref H2.size] = #[Value.ref (w.1.1 12 0)]; rw [a12'], hK.warm hWm, hB.moved hWm.alike, by rw [hU2]; exact (hR.kept fun a h1 h2 => hS3.2.1 a h1 h2).moved hWm.alike, by rw [hU2]; omega, by rw [hU2]; exact hP3⟩⟩ rfl rfl hl.1 rfl (lv_room (Nat.le_of_ble_eq_true rfl)) dl_12 ⟨by show _ ≤ 600000; omega, by show _ ≤ 7302250; omega⟩
  refine w_after hrun2 hS3 fun w' r G' H4 locs4 hΦ hw' hWd4 hG4 hr4 hS4 => ?_
  obtain ⟨rfl, rfl, hI⟩ := hΦ
  refine lv_astore_n (lv' := [(2, .ref (w'.1.1 12 0)), (1, .ref (w'.1.1 11 0)), (0, .ref b)]) hx hb dl_15 rfl hl (by decide) (by rw [a12']; rfl) (fun ls hl => ?_)
  refine lv_iconst (v := Int32.ofInt ((0 : Nat) : Int)) hx hb dl_16 (by decide) ?_
  refine lv_istore_n (lv' := [(3, .int (Int32.ofInt ((0 : Nat) : Int))), (2, .ref (w'.1.1 12 0)), (1, .ref (w'.1.1 11 0)), (0, .ref b)]) hx hb dl_17 rfl hl (by decide) rfl (fun ls hl => ?_)
  exact law_loop C0 hL (L + 1) 0 0 w' G' H4 locs4 ls rfl (Nat.zero_le _) (by omega) ⟨hK, hR, hbase⟩ hWd4 hG4 (by rw [h0]; exact hI) hS4 hl
-- ===== YOUR PART ENDS =====
set_option maxHeartbeats 4000000 in
theorem lw_walk (l : Launch) (hflags : l.flags = flags0) (b : Addr) (xs : List Int32) : MetFree l x (headSpec (Jvm.Cond.code x code maxLocals ret :: tables_1) room_1) (lw_P b xs) (fun _ _ _ _ _ => True) lw_Q := by
  refine MetFree.of_bodyS (code := code) (maxLocals := maxLocals) (ret := ret) (by decide) ?_ ?_
  · intro args s m h hn
    obtain ⟨meth, c, h1, h2, h3, h4, h5, h6, -, -⟩ := Cond.code_spec hn (atoms_spec (ws := Jvm.Cond.code x code maxLocals ret :: tables_1) h _ List.mem_cons_self)
    exact ⟨meth, c, h1, h2, h3, h4, h5, h6⟩
  · intro p e s m args below meth c s₁ B hml0 hP _
    obtain ⟨rfl, hx, hbd, hgv⟩ := hP
    obtain ⟨scr, harrAt, hlist, hof, hsmall⟩ := hx
    obtain ⟨hcb, hkn, -, -⟩ := State.arrayAt?_spec harrAt
    have hown : s.vm.findClass R_law = some m.cls := findClass_of_methodNamed B.named
    have hts0 : ∀ c ∈ (Jvm.Cond.code x code maxLocals ret :: tables_1), c.before #[Value.ref b] s = true := atoms_spec (ws := Jvm.Cond.code x code maxLocals ret :: tables_1) B.pre
    have hts : ∀ w ∈ lw_tbl, w.before #[Value.ref b] s = true := k2_hts_sels lw_privs (fun w hw => hts0 w (List.mem_cons_of_mem _ hw)) lw_privs_ok
    have hml : c.maxLocals = 4 := B.maxLocals_eq (hts0 _ List.mem_cons_self)
    have X₀ : Stand p l e room_1 s m #[Value.ref b] below meth c s₁ [] 0 0 := Stand.of_body B
    have hh0 : s₁.heap = s.heap := by rw [B.state]; rfl
    have hsz : scr.slots.size = xs.length := by rw [← Array.length_toList, hlist, List.length_map]
    have hval : ∀ j : Nat, j < xs.length → scr.slots[j]? = some (.int (xs.getD j 0)) := fun j hj => by
      rw [← Array.getElem?_toList, hlist]
      simp [hj]
    have hbl : b < s.heap.size := (Array.getElem?_eq_some_iff.mp hcb).1
    have hX : va_X b xs.length (fun j => xs.getD j 0) s s.heap := ⟨scr, hcb, hof, hkn, hsz, hval⟩
    have K : W p l e room_1 s m #[Value.ref b] below meth c s₁.heap [] 0 0 (lw_Z below #[Value.ref b] s) (entryFrame m ([Value.ref b] : List Value).toArray 4) := by
      rw [hh0]
      exact whole_start l hflags hbd ⟨B.exec, B.bytes, B.returns, hml, hown, hts, hX, hbl, B.notSynchronized, hgv⟩
    obtain ⟨t, a1, o, b1, b2, b3⟩ := K s₁ rfl X₀
    exact ⟨t, o, a1, b1, b2, b3⟩
theorem lw_pre_spec {args : Array Value} {s : State} (h : (Jvm.Cond.and given_1 narrow_1).before args s = true) (hr : rest_1_c.before args s = true) : ∃ (b : Addr) (xs : List Int32), lw_P b xs args s := by
  have hs := flat_of_before _ h
  have hq := flat_of_before _ hr
  have hc : (Cond.count 1).before args s = true := hs _ (by decide +kernel)
  have harr : (Cond.arrayOf (.arg 0) .int).before args s = true := hs _ (by decide +kernel)
  have hle : (Cond.le (.length (.arg 0)) (.int 384)).before args s = true := hs _ (by decide +kernel)
  have hlen : (Cond.isInt (.length (.arg 0))).before args s = true := hq _ (by decide +kernel)
  have hall : (Cond.all (.arg 0) (.isInt (.elem (.arg 0) (.index 0)))).before args s = true := hq _ (by decide +kernel)
  obtain ⟨b, xs, hb, hx⟩ := State.ints_of_pre rfl harr hlen hall
  have hsm : xs.length < 2 ^ 31 := hx.choose_spec.2.2.2
  have hev : (Term.length (.arg 0)).eval args s none [] s = some (.int xs.length.toInt32) := hx.length_eval hb
  have hv := Cond.le_ints hev (show (Term.int 384).eval args s none [] s = some (.int 384) from rfl)
  have hd : xs.length.toInt32 ≤ 384 := by
    simpa [Cond.before, Cond.holds, hv] using hle
  have hN : xs.length ≤ 384 := (Int32.ofNat_le_ofNat hsm (by decide)).mp (show Int32.ofNat xs.length ≤ Int32.ofNat 384 from hd)
  exact ⟨b, xs, Cond.one_arg hc (show args[0]? = some (.ref b) from hb), hx, hN, h⟩
theorem lw_comes (l : Launch) (hflags : l.flags = flags0) : Comes l x (Jvm.Cond.code x code maxLocals ret :: tables_1) room_1 (fun tb e args s => Calls_1 tb e args s ∧ rest_1 tb e args s ∧ Pre_1 tb e args s)
    (fun _ _ args s o t => lw_Q args s o t) := by
  intro p e ha hc hk s m args below hf hfit hheap happ hpre
  obtain ⟨b, xs, hP⟩ := lw_pre_spec hpre.2.2 hpre.2.1
  obtain ⟨k, o, h1, h2, h3, hQ⟩ := lw_walk l hflags b xs p e ha hc hk s m args below hf ((Spec.applies_iff_loose hf).mp happ).1 hP trivial
  exact ⟨k, o, h1, h2, h3, hQ⟩
theorem lw_frame {s t : State} {o : Outcome} {args : Array Value} (h : Framed s o t [] 600000 7302250) :
    Framed s o t (fieldLocs frame_1_writes args s ++ arrayLocs frame_1_arrays args s ++ staticLocs frame_1_statics s) 600000 7302250 := h
theorem lw_limb (L : Cond) (hL : ∀ (args : Array Value) (s t : State), L.after args s (.returned (some (.int 1))) t = true) :
    ArmFor flags0 classFile x code maxLocals ret World_1 tables_1 room_1 Calls_1 rest_1 Pre_1
      (fun tb e a s o t => postC L tb e a s o t ∧ Framed s o t (fieldLocs frame_1_writes a s ++ arrayLocs frame_1_arrays a s ++ staticLocs frame_1_statics s) 600000 7302250) := by
  intro l hflags _ _ p e ha hc hk s m args below hf hfit hheap happ hpre
  obtain ⟨k, o, h1, h2, h3, rfl, hF⟩ := lw_comes l hflags p e ha hc hk s m args below hf hfit hheap happ hpre
  exact ⟨k, _, h1, h2, h3, hL args s _, lw_frame hF⟩
theorem i_vc : Claimed_1_1 ∧ Claimed_1_2 := ⟨lw_limb limb_1_1 (fun args s t => by simp [limb_1_1, Cond.after, Cond.holds, Cond.value]), lw_limb limb_1_2 (fun args s t => Cond.after_iff.mpr (by
  first | (rw [show limb_1_2 = Cond.eq .result (.int 1) from rfl, Cond.eq_ints (x := 1) (y := 1) rfl rfl]; simp; done) | (simp [limb_1_2, Cond.value, Term.eval]; done)))⟩
