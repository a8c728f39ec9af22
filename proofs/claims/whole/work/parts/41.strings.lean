def mokT (M : MI) (n : Nat) : Prop := mokS M n ∧ Cond.instanceMethod M.1 ∈ UW ∧ M.1.cls = "java/lang/String"
def RKt (M M' : MI) (pc n pc' : Nat) : Prop := ∃ idx, decode M.2.1 pc = .ok (.invokevirtual idx, 3) ∧ Cond.methodLink M.1.cls idx M'.1 ∈ UW ∧ mokT M' n ∧ Cond.selects M'.1.cls M'.1 M'.1 ∈ UW ∧ pc + 3 = pc'
def RGT (M : MI) (pc : Nat) (n d : String) (pc' : Nat) : Prop := ∃ idx, decode M.2.1 pc = .ok (.getfield idx, 3) ∧ Cond.fieldLink M.1.cls idx "java/lang/String" n d ∈ UW ∧ pc + 3 = pc'
def RGC (M : MI) (pc pc' : Nat) : Prop := ∃ idx, decode M.2.1 pc = .ok (.getstatic idx, 3) ∧ Cond.fieldLink M.1.cls idx "java/lang/String" "COMPACT_STRINGS" "Z" ∈ UW ∧ pc + 3 = pc'
def RLT0 (M : MI) (pc pc' : Nat) : Prop := decode M.2.1 pc = .ok (.ldc 65, 2) ∧ M.1.cls = "NameRolls$Reader" ∧ pc + 2 = pc'
def stL : List Int := [107, 103, 121, 110, 97, 100, 98, 99, 116]
def stB (i : Int) : Int := stL.getD i.toNat 0
theorem stB_at : ∀ j : Nat, j < 9 → strB.getD j 0 = Int32.ofInt (stL.getD j 0) ∧ -2147483648 ≤ stL.getD j 0 ∧ stL.getD j 0 < 2147483648 := by decide +kernel
section STRINGS
variable {l : Launch} {w : Wo} {M M' : MI} {d K k pc pc' n : Nat} {ls : List (Option PV)} {st st0 av : List PV} {G : PH} {Φ : Wo → Option PV → PH → Prop}
theorem pw_ldcS (hd : RLT0 M pc pc') (K0 : PWg l w M d K k pc' ls (vR 192 0 :: st) G Φ) : PWg l w M d K k pc ls st G Φ := by
  obtain ⟨hd, hcl, rfl⟩ := hd
  intro p e s m args below meth c H locs lsr hC hW hO hS hL
  have h := K0 p e s m args below meth c H locs lsr hC hW ⟨hO.1, memC (show okv _ (vR 192 0) from Or.inr (Or.inr ⟨by decide, by decide, rfl⟩)) hO.2.1, hO.2.2⟩ hS hL
  have hown := hC.2.2.2.2.1
  rw [hcl] at hown
  exact va_ldcS hC.1 hC.2.1 hown hC.2.2.2.2.2.2.2.2.1.2.2 hd h
theorem pw_getCoder (hd : RGT M pc "coder" "B" pc') (K0 : PWg l w M d K k pc' ls (vI 0 :: st) G Φ) : PWg l w M d K k pc ls (vR 192 0 :: st) G Φ := by
  obtain ⟨idx, hd, hlk, rfl⟩ := hd
  intro p e s m args below meth c H locs lsr hC hW hO hS hL
  have h := K0 p e s m args below meth c H locs lsr hC hW ⟨hO.1, mem1 (show iR 0 from ⟨by decide, by decide⟩) hO.2.1, hO.2.2⟩ hS hL
  have hv := (hC.2.2.2.2.2.2.2.2.2.2.2.2.2.2.1.1 0 (by decide)).2.1
  rw [List.map_cons, show rvv w (vI 0) = Value.int 0 from congrArg Value.int (by decide)] at h
  exact vk_getf hC.1 hC.2.1 hv hS hC.2.2.2.2.1 (hC.2.2.2.2.2.1 _ hlk) (fun _ h => h) hd h
theorem pw_getValue (hd : RGT M pc "value" "[B" pc') (K0 : PWg l w M d K k pc' ls (vR 193 0 :: st) G Φ) : PWg l w M d K k pc ls (vR 192 0 :: st) G Φ := by
  obtain ⟨idx, hd, hlk, rfl⟩ := hd
  intro p e s m args below meth c H locs lsr hC hW hO hS hL
  have h := K0 p e s m args below meth c H locs lsr hC hW ⟨hO.1, mem1 (show okv _ (vR 193 0) from Or.inr (Or.inr ⟨by decide, by decide, rfl⟩)) hO.2.1, hO.2.2⟩ hS hL
  have hv := (hC.2.2.2.2.2.2.2.2.2.2.2.2.2.2.1.1 0 (by decide)).2.2.1
  exact vk_getf hC.1 hC.2.1 hv hS hC.2.2.2.2.1 (hC.2.2.2.2.2.1 _ hlk) (fun _ h => h) hd h
theorem pw_gsCS (hd : RGC M pc pc') (K0 : PWg l w M d K k pc' ls (vI 1 :: st) G Φ) : PWg l w M d K k pc ls st G Φ := by
  obtain ⟨idx, hd, hlk, rfl⟩ := hd
  intro p e s m args below meth c H locs lsr hC hW hO hS hL
  have h := K0 p e s m args below meth c H locs lsr hC hW ⟨hO.1, memC (show iR 1 from ⟨by decide, by decide⟩) hO.2.1, hO.2.2⟩ hS hL
  rw [List.map_cons, show rvv w (vI 1) = Value.int 1 from congrArg Value.int (by decide)] at h
  exact va_gets hC.1 hC.2.1 hC.2.2.2.2.2.2.2.2.2.2.2.2.2.2.2 hS hC.2.2.2.2.1 (hC.2.2.2.2.2.1 _ hlk) (fun _ h => h) hd h
theorem pw_alen193 (hd : RW M pc .arraylength pc' 1) (K0 : PWg l w M d K k pc' ls (vI 9 :: st) G Φ) : PWg l w M d K k pc ls (vR 193 0 :: st) G Φ := by
  obtain ⟨hd, rfl⟩ := hd
  intro p e s m args below meth c H locs lsr hC hW hO hS hL
  have h := K0 p e s m args below meth c H locs lsr hC hW ⟨hO.1, mem1 (show iR 9 from ⟨by decide, by decide⟩) hO.2.1, hO.2.2⟩ hS hL
  have hv := (hC.2.2.2.2.2.2.2.2.2.2.2.2.2.2.1.1 0 (by decide)).2.2.2
  exact va_tlen hC.1 hC.2.1 hv hS (v := Int32.ofInt 9) (by decide) hd h
theorem pw_bal193 {i : Int} (hd : RW M pc .baload pc' 1) (h0 : 0 ≤ i) (h1 : i < 9) (K0 : PWg l w M d K k pc' ls (vI (stB i) :: st) G Φ) : PWg l w M d K k pc ls (vI i :: vR 193 0 :: st) G Φ := by
  obtain ⟨hd, rfl⟩ := hd
  intro p e s m args below meth c H locs lsr hC hW hO hS hL
  obtain ⟨g1, g2⟩ := of_in (n := 9) h0 h1 (by decide)
  obtain ⟨q1, q2⟩ := stB_at i.toNat (by omega)
  have h := K0 p e s m args below meth c H locs lsr hC hW ⟨hO.1, mem2 (show iR (stB i) from q2) hO.2.1, hO.2.2⟩ hS hL
  have hv := (hC.2.2.2.2.2.2.2.2.2.2.2.2.2.2.1.1 0 (by decide)).2.2.2
  exact va_tb hC.1 hC.2.1 hv hS g1 (v := .int (Int32.ofInt (stB i))) (by rw [g2]; exact congrArg Value.int q1) hd h
theorem pw_bret (hd : RW M pc .ireturn pc' 1) (hr : M.2.2.2 = some .byte) (hk : k ≤ K) (hq : Φ w (some (vI 0)) G) : PWg l w M d K k pc ls [vI 0] G Φ := by
  obtain ⟨hd, -⟩ := hd
  intro p e s m args below meth c H locs lsr hC hW hO hS hL
  refine pw_end (v := vI 0) hk hq hO.1 (fun u hu => by cases hu; exact hO.2.1 _ List.mem_cons_self) hW hS fun hQ => ?_
  exact W.zret hC.1 hC.2.1 (ty := .byte) (by rw [hC.2.2.1, hr]) (by decide) hQ hS.2.2 hd hC.2.2.2.2.2.2.1
theorem pw_callT {ls0 : List (Option PV)} (hd : RKt M M' pc n pc') (hck : ckC (n + 1) (vR 192 0 :: av) st M'.2.2.1 = true) (hst : st0 = av.reverse ++ vR 192 0 :: st) (hl0 : inl' M' (vR 192 0 :: av) = ls0) (hk : k ≤ K) (hb : PW l w M' d 0 ls0 [] G (fun r G' => PWg l w M (d + 1) K k pc' ls (pushR r st) G' Φ)) : PWg l w M (d + 1) K k pc ls st0 G Φ := by
  subst hl0
  subst hst
  obtain ⟨idx, hd, hlk, ⟨⟨hcode, hini, ⟨hd1, hd2, hd3⟩, hpl⟩, hins, hqn⟩, hsel, rfl⟩ := hd
  obtain ⟨e1, e2, e3, e4, e5, e6⟩ := ckC_ok hck
  intro p e s m args below meth c H locs lsr hC hW hO hS hL
  have hst : ∀ v ∈ st, okv w.1.2 v := fun v hv => hO.2.1 v (List.mem_append_right _ (List.mem_cons_of_mem _ hv))
  have hrv : okv w.1.2 (vR 192 0) := hO.2.1 _ (List.mem_append_right _ List.mem_cons_self)
  have hav : ∀ v ∈ vR 192 0 :: av, okv w.1.2 v := fun v hv => by
    rcases List.mem_cons.mp hv with rfl | hv
    · exact hrv
    · exact hO.2.1 v (List.mem_append_left _ (List.mem_reverse.mpr hv))
  have hcont := pw_cont (l := l) (d := d + 1) (M := M) (Φ := Φ) (K := K) (k := k) (Φc := fun w' r G' => w' = w ∧ PWg l w M (d + 1) K k (pc + 3) ls (pushR r st) G' Φ) (pc' := pc + 3) (K' := 0) (e := e) (below := below) (p := p) hC hO.2.2 hst hL (fun w' r G' h => by rw [h.1]; exact ⟨Agr.rf w, h.2⟩)
  have hcat : ((st.map (rvv w)).map fun v => v.category).sum ≤ 8 := by rw [noJ_sum w st e5]; exact e6
  have hrk := rok_of (d := d) (mL := M'.2.2.1) (K' := 0) (k := k) (K := K) e4 hk
  have S : CallFix p m c M.2.1 M.2.2.1 s args UW M.1.cls := ⟨hC.1, hC.2.1, hC.2.2.2.1, hC.2.2.2.2.1, hC.2.2.2.2.2.1⟩
  have hpc := w_pcw (own := M.1.cls) (cc := M.2.1) (nL := 0) (Ts := UW) hC.2.2.2.2.2.2.2.2.1 hC.2.2.2.2.2.2.2.2.2.2 hC.2.2.2.2.2.2.2.2.2.1 hW hO.1 hav hS
  have hts := hC.2.2.2.2.2.1
  have hM := pw_met hpl e2 e3 hb
  have hrecv := vk_recv (i := 0) hC.2.2.2.2.2.2.2.2.2.2.2.2.2.2.1 (by decide) hS
  rw [← hqn] at hrecv
  rw [List.map_append, List.map_reverse]
  exact w_after (va_runV (As := av.map (rvv w)) (rest := st.map (rvv w)) (C := M'.1.cls) S hM (n := n) ⟨callB_of n hts (goodIn_UW (fun _ h => h) hcode) rfl rfl rfl (hts _ hini) (hts _ hlk) ⟨hd1, hd2, hd3⟩ ⟨hrk.1, hrk.2.1⟩, hts _ hins, hts _ hsel⟩ ⟨Pcw_blind w G _, hrecv, hpc⟩ rfl (by rw [List.length_map]; exact Nat.succ.inj e1) hL.1 rfl (lv_room hcat) hd hrk.2.2) hS hcont
end STRINGS
theorem c16_by : ∀ j : Nat, j < 256 → c16 j = j := by decide +kernel
theorem c16_id {c : Int} (h0 : 0 ≤ c) (h1 : c ≤ 255) : c16 c = c := by
  have := c16_by c.toNat (by omega)
  rwa [Int.toNat_of_nonneg h0] at this
theorem b8_eq {c x : Int} (h0 : 0 ≤ c) (h1 : c ≤ 255) (x0 : 0 ≤ x) (x1 : x < 128) : b8 c = x ↔ c = x := by
  unfold b8
  rw [Int.bmod_def]
  omega
theorem stB_nm {i c : Int} (h0 : 0 ≤ i) (h1 : i < 9) : (0 ≤ stB i ∧ stB i < 128) ∧ (c = stB i → nmIx c = i) := by
  have h : i = 0 ∨ i = 1 ∨ i = 2 ∨ i = 3 ∨ i = 4 ∨ i = 5 ∨ i = 6 ∨ i = 7 ∨ i = 8 := by omega
  rcases h with rfl | rfl | rfl | rfl | rfl | rfl | rfl | rfl | rfl <;> exact ⟨by decide, fun e => by subst e; decide⟩
theorem nm_none {c : Int} (h : ∀ j, 0 ≤ j → j < 9 → c ≠ stB j) : nmIx c = -1 := by
  have a0 : c ≠ 107 := h 0 (by decide) (by decide)
  have a1 : c ≠ 103 := h 1 (by decide) (by decide)
  have a2 : c ≠ 121 := h 2 (by decide) (by decide)
  have a3 : c ≠ 110 := h 3 (by decide) (by decide)
  have a4 : c ≠ 97 := h 4 (by decide) (by decide)
  have a5 : c ≠ 100 := h 5 (by decide) (by decide)
  have a6 : c ≠ 98 := h 6 (by decide) (by decide)
  have a7 : c ≠ 99 := h 7 (by decide) (by decide)
  have a8 : c ≠ 116 := h 8 (by decide) (by decide)
  unfold nmIx
  rw [if_neg a0, if_neg a1, if_neg a2, if_neg a3, if_neg a4, if_neg a5, if_neg a6, if_neg a7, if_neg a8]
theorem nm_out {c : Int} (h : c < 0 ∨ 255 < c) : nmIx c = -1 := nm_none fun j h0 h1 => by have := (stB_nm (c := c) h0 h1).1; omega
def M_J_String_coder : MI := (⟨"java/lang/String", "coder", "()B"⟩, prog_18_method_152_code, 1, (Option.some Jvm.ClassFile.FieldType.byte))
theorem ok_M_J_String_coder : mokT M_J_String_coder 0 := ⟨⟨UW4_at 166 rfl rfl, UW1_at 15 (by decide +kernel) rfl, ⟨by decide, by decide, by decide +kernel⟩, by decide +kernel⟩, UW4_at 164 (by decide +kernel) rfl, rfl⟩
def M_J_String_isLatin1 : MI := (⟨"java/lang/String", "isLatin1", "()Z"⟩, prog_18_method_154_code, 1, (Option.some Jvm.ClassFile.FieldType.boolean))
theorem ok_M_J_String_isLatin1 : mokT M_J_String_isLatin1 0 := ⟨⟨UW4_at 156 rfl rfl, UW1_at 15 (by decide +kernel) rfl, ⟨by decide, by decide, by decide +kernel⟩, by decide +kernel⟩, UW4_at 154 (by decide +kernel) rfl, rfl⟩
def M_J_String_length : MI := (⟨"java/lang/String", "length", "()I"⟩, prog_18_method_54_code, 1, (Option.some Jvm.ClassFile.FieldType.int))
theorem ok_M_J_String_length : mokT M_J_String_length 0 := ⟨⟨UW4_at 162 rfl rfl, UW1_at 15 (by decide +kernel) rfl, ⟨by decide, by decide, by decide +kernel⟩, by decide +kernel⟩, UW4_at 160 (by decide +kernel) rfl, rfl⟩
def M_J_Latin1_canEncode : MI := (⟨"java/lang/StringLatin1", "canEncode", "(I)Z"⟩, prog_19_method_4_code, 1, (Option.some Jvm.ClassFile.FieldType.boolean))
theorem ok_M_J_Latin1_canEncode : mokS M_J_Latin1_canEncode 1 ∧ Cond.static M_J_Latin1_canEncode.1 ∈ UW := ⟨⟨UW4_at 172 rfl rfl, UW1_at 16 (by decide +kernel) rfl, ⟨by decide, by decide, by decide +kernel⟩, by decide +kernel⟩, UW4_at 171 (by decide +kernel) rfl⟩
def M_J_Latin1_indexOfChar : MI := (⟨"java/lang/StringLatin1", "indexOfChar", "([BIII)I"⟩, prog_19_method_23_code, 6, (Option.some Jvm.ClassFile.FieldType.int))
theorem ok_M_J_Latin1_indexOfChar : mokS M_J_Latin1_indexOfChar 4 ∧ Cond.static M_J_Latin1_indexOfChar.1 ∈ UW := ⟨⟨UW4_at 179 rfl rfl, UW1_at 16 (by decide +kernel) rfl, ⟨by decide, by decide, by decide +kernel⟩, by decide +kernel⟩, UW4_at 178 (by decide +kernel) rfl⟩
def M_J_Latin1_indexOf : MI := (⟨"java/lang/StringLatin1", "indexOf", "([BIII)I"⟩, prog_19_method_22_code, 4, (Option.some Jvm.ClassFile.FieldType.int))
theorem ok_M_J_Latin1_indexOf : mokS M_J_Latin1_indexOf 4 ∧ Cond.static M_J_Latin1_indexOf.1 ∈ UW := ⟨⟨UW4_at 169 rfl rfl, UW1_at 16 (by decide +kernel) rfl, ⟨by decide, by decide, by decide +kernel⟩, by decide +kernel⟩, UW4_at 168 (by decide +kernel) rfl⟩
def M_J_String_indexOf2 : MI := (⟨"java/lang/String", "indexOf", "(II)I"⟩, prog_18_method_80_code, 3, (Option.some Jvm.ClassFile.FieldType.int))
theorem ok_M_J_String_indexOf2 : mokT M_J_String_indexOf2 2 := ⟨⟨UW4_at 152 rfl rfl, UW1_at 15 (by decide +kernel) rfl, ⟨by decide, by decide, by decide +kernel⟩, by decide +kernel⟩, UW4_at 150 (by decide +kernel) rfl, rfl⟩
def M_J_String_indexOf1 : MI := (⟨"java/lang/String", "indexOf", "(I)I"⟩, prog_18_method_79_code, 2, (Option.some Jvm.ClassFile.FieldType.int))
theorem ok_M_J_String_indexOf1 : mokT M_J_String_indexOf1 1 := ⟨⟨UW4_at 148 rfl rfl, UW1_at 15 (by decide +kernel) rfl, ⟨by decide, by decide, by decide +kernel⟩, by decide +kernel⟩, UW4_at 146 (by decide +kernel) rfl, rfl⟩
theorem wd_f192_38 : Cond.fieldLink "java/lang/String" 38 "java/lang/String" "COMPACT_STRINGS" "Z" ∈ UW := UW4_at 157 (by decide +kernel) rfl
theorem wd_f192_15 : Cond.fieldLink "java/lang/String" 15 "java/lang/String" "coder" "B" ∈ UW := UW10_at 132 (by decide +kernel) rfl
theorem wd_f192_9 : Cond.fieldLink "java/lang/String" 9 "java/lang/String" "value" "[B" ∈ UW := UW10_at 133 (by decide +kernel) rfl
theorem wd_m192_335 : Cond.methodLink "java/lang/String" 335 M_J_String_coder.1 ∈ UW := UW4_at 163 (by decide +kernel) rfl
theorem wd_sJ_String_coder : Cond.selects M_J_String_coder.1.cls M_J_String_coder.1 M_J_String_coder.1 ∈ UW := UW4_at 165 (by decide +kernel) rfl
theorem wd_m194_88 : Cond.methodLink "java/lang/StringLatin1" 88 M_J_Latin1_canEncode.1 ∈ UW := UW4_at 170 (by decide +kernel) rfl
theorem wd_m194_92 : Cond.methodLink "java/lang/StringLatin1" 92 Lib.Math.max.name ∈ UW := UW4_at 173 (by decide +kernel) rfl
theorem wd_m194_38 : Cond.methodLink "java/lang/StringLatin1" 38 Lib.Math.min.name ∈ UW := UW4_at 176 (by decide +kernel) rfl
theorem wd_m194_95 : Cond.methodLink "java/lang/StringLatin1" 95 M_J_Latin1_indexOfChar.1 ∈ UW := UW4_at 177 (by decide +kernel) rfl
theorem wd_m192_492 : Cond.methodLink "java/lang/String" 492 M_J_String_isLatin1.1 ∈ UW := UW4_at 153 (by decide +kernel) rfl
theorem wd_sJ_String_isLatin1 : Cond.selects M_J_String_isLatin1.1.cls M_J_String_isLatin1.1 M_J_String_isLatin1.1 ∈ UW := UW4_at 155 (by decide +kernel) rfl
theorem wd_m192_505 : Cond.methodLink "java/lang/String" 505 M_J_String_length.1 ∈ UW := UW4_at 159 (by decide +kernel) rfl
theorem wd_sJ_String_length : Cond.selects M_J_String_length.1.cls M_J_String_length.1 M_J_String_length.1 ∈ UW := UW4_at 161 (by decide +kernel) rfl
theorem wd_m192_637 : Cond.methodLink "java/lang/String" 637 M_J_Latin1_indexOf.1 ∈ UW := UW4_at 167 (by decide +kernel) rfl
theorem wd_m192_633 : Cond.methodLink "java/lang/String" 633 M_J_String_indexOf2.1 ∈ UW := UW4_at 149 (by decide +kernel) rfl
theorem wd_sJ_String_indexOf2 : Cond.selects M_J_String_indexOf2.1.cls M_J_String_indexOf2.1 M_J_String_indexOf2.1 ∈ UW := UW4_at 151 (by decide +kernel) rfl
theorem r_J_String_coder_0 : RGC M_J_String_coder 0 3 := ⟨38, by decide +kernel, wd_f192_38, rfl⟩
theorem r_J_String_coder_3 : RB M_J_String_coder 3 (.ifCond .eq) 13 6 := ⟨10, by decide +kernel, rfl, rfl⟩
theorem r_J_String_coder_6 : RA M_J_String_coder 6 0 7 := Or.inl ⟨0, by decide +kernel, rfl, rfl⟩
theorem r_J_String_coder_7 : RGT M_J_String_coder 7 "coder" "B" 10 := ⟨15, by decide +kernel, wd_f192_15, rfl⟩
theorem r_J_String_coder_10 : RB M_J_String_coder 10 .goto 14 13 := ⟨4, by decide +kernel, rfl, rfl⟩
theorem r_J_String_coder_14 : RW M_J_String_coder 14 .ireturn 15 1 := ⟨by decide +kernel, rfl⟩
theorem r_J_String_isLatin1_0 : RGC M_J_String_isLatin1 0 3 := ⟨38, by decide +kernel, wd_f192_38, rfl⟩
theorem r_J_String_isLatin1_3 : RB M_J_String_isLatin1 3 (.ifCond .eq) 17 6 := ⟨14, by decide +kernel, rfl, rfl⟩
theorem r_J_String_isLatin1_6 : RA M_J_String_isLatin1 6 0 7 := Or.inl ⟨0, by decide +kernel, rfl, rfl⟩
theorem r_J_String_isLatin1_7 : RGT M_J_String_isLatin1 7 "coder" "B" 10 := ⟨15, by decide +kernel, wd_f192_15, rfl⟩
theorem r_J_String_isLatin1_10 : RB M_J_String_isLatin1 10 (.ifCond .ne) 17 13 := ⟨7, by decide +kernel, rfl, rfl⟩
theorem r_J_String_isLatin1_13 : RC M_J_String_isLatin1 13 1 14 := ⟨⟨by decide, by decide⟩, Or.inl ⟨by decide +kernel, rfl⟩⟩
theorem r_J_String_isLatin1_14 : RB M_J_String_isLatin1 14 .goto 18 17 := ⟨4, by decide +kernel, rfl, rfl⟩
theorem r_J_String_isLatin1_18 : RW M_J_String_isLatin1 18 .ireturn 19 1 := ⟨by decide +kernel, rfl⟩
theorem r_J_String_length_0 : RA M_J_String_length 0 0 1 := Or.inl ⟨0, by decide +kernel, rfl, rfl⟩
theorem r_J_String_length_1 : RGT M_J_String_length 1 "value" "[B" 4 := ⟨9, by decide +kernel, wd_f192_9, rfl⟩
theorem r_J_String_length_4 : RW M_J_String_length 4 .arraylength 5 1 := ⟨by decide +kernel, rfl⟩
theorem r_J_String_length_5 : RA M_J_String_length 5 0 6 := Or.inl ⟨0, by decide +kernel, rfl, rfl⟩
theorem r_J_String_length_6 : RKt M_J_String_length M_J_String_coder 6 0 9 := ⟨335, by decide +kernel, wd_m192_335, ok_M_J_String_coder, wd_sJ_String_coder, rfl⟩
theorem r_J_String_length_9 : RW M_J_String_length 9 .ishr 10 1 := ⟨by decide +kernel, rfl⟩
theorem r_J_String_length_10 : RW M_J_String_length 10 .ireturn 11 1 := ⟨by decide +kernel, rfl⟩
theorem r_J_Latin1_canEncode_0 : RL M_J_Latin1_canEncode 0 0 1 := Or.inl ⟨0, by decide +kernel, rfl, rfl⟩
theorem r_J_Latin1_canEncode_1 : RB M_J_Latin1_canEncode 1 (.ifCond .lt) 15 4 := ⟨14, by decide +kernel, rfl, rfl⟩
theorem r_J_Latin1_canEncode_15 : RC M_J_Latin1_canEncode 15 0 16 := ⟨⟨by decide, by decide⟩, Or.inl ⟨by decide +kernel, rfl⟩⟩
theorem r_J_Latin1_canEncode_16 : RW M_J_Latin1_canEncode 16 .ireturn 17 1 := ⟨by decide +kernel, rfl⟩
theorem r_J_Latin1_canEncode_4 : RL M_J_Latin1_canEncode 4 0 5 := Or.inl ⟨0, by decide +kernel, rfl, rfl⟩
theorem r_J_Latin1_canEncode_5 : RC M_J_Latin1_canEncode 5 255 8 := ⟨⟨by decide, by decide⟩, Or.inr (Or.inr (Or.inl ⟨by decide +kernel, by decide, rfl⟩))⟩
theorem r_J_Latin1_canEncode_8 : RB M_J_Latin1_canEncode 8 (.if_icmp .gt) 15 11 := ⟨7, by decide +kernel, rfl, rfl⟩
theorem r_J_Latin1_canEncode_11 : RC M_J_Latin1_canEncode 11 1 12 := ⟨⟨by decide, by decide⟩, Or.inl ⟨by decide +kernel, rfl⟩⟩
theorem r_J_Latin1_canEncode_12 : RB M_J_Latin1_canEncode 12 .goto 16 15 := ⟨4, by decide +kernel, rfl, rfl⟩
theorem r_J_Latin1_indexOfChar_0 : RL M_J_Latin1_indexOfChar 0 1 1 := Or.inl ⟨1, by decide +kernel, rfl, rfl⟩
theorem r_J_Latin1_indexOfChar_1 : RW M_J_Latin1_indexOfChar 1 .i2b 2 1 := ⟨by decide +kernel, rfl⟩
theorem r_J_Latin1_indexOfChar_2 : RS M_J_Latin1_indexOfChar 2 4 4 := ⟨by decide, Or.inr ⟨by decide +kernel, rfl⟩⟩
theorem r_J_Latin1_indexOfChar_4 : RL M_J_Latin1_indexOfChar 4 2 5 := Or.inl ⟨2, by decide +kernel, rfl, rfl⟩
theorem r_J_Latin1_indexOfChar_5 : RS M_J_Latin1_indexOfChar 5 5 7 := ⟨by decide, Or.inr ⟨by decide +kernel, rfl⟩⟩
theorem r_J_Latin1_indexOfChar_7 : RL M_J_Latin1_indexOfChar 7 5 9 := Or.inr ⟨by decide +kernel, rfl⟩
theorem r_J_Latin1_indexOfChar_9 : RL M_J_Latin1_indexOfChar 9 3 10 := Or.inl ⟨3, by decide +kernel, rfl, rfl⟩
theorem r_J_Latin1_indexOfChar_10 : RB M_J_Latin1_indexOfChar 10 (.if_icmp .ge) 31 13 := ⟨21, by decide +kernel, rfl, rfl⟩
theorem r_J_Latin1_indexOfChar_31 : RC M_J_Latin1_indexOfChar 31 (-1) 32 := ⟨⟨by decide, by decide⟩, Or.inl ⟨by decide +kernel, rfl⟩⟩
theorem r_J_Latin1_indexOfChar_32 : RW M_J_Latin1_indexOfChar 32 .ireturn 33 1 := ⟨by decide +kernel, rfl⟩
theorem r_J_Latin1_indexOfChar_13 : RA M_J_Latin1_indexOfChar 13 0 14 := Or.inl ⟨0, by decide +kernel, rfl, rfl⟩
theorem r_J_Latin1_indexOfChar_14 : RL M_J_Latin1_indexOfChar 14 5 16 := Or.inr ⟨by decide +kernel, rfl⟩
theorem r_J_Latin1_indexOfChar_16 : RW M_J_Latin1_indexOfChar 16 .baload 17 1 := ⟨by decide +kernel, rfl⟩
theorem r_J_Latin1_indexOfChar_17 : RL M_J_Latin1_indexOfChar 17 4 19 := Or.inr ⟨by decide +kernel, rfl⟩
theorem r_J_Latin1_indexOfChar_19 : RB M_J_Latin1_indexOfChar 19 (.if_icmp .ne) 25 22 := ⟨6, by decide +kernel, rfl, rfl⟩
theorem r_J_Latin1_indexOfChar_25 : RI M_J_Latin1_indexOfChar 25 5 1 28 := ⟨by decide, by decide +kernel, rfl⟩
theorem r_J_Latin1_indexOfChar_28 : RB M_J_Latin1_indexOfChar 28 .goto 7 31 := ⟨(-21), by decide +kernel, rfl, rfl⟩
theorem r_J_Latin1_indexOfChar_22 : RL M_J_Latin1_indexOfChar 22 5 24 := Or.inr ⟨by decide +kernel, rfl⟩
theorem r_J_Latin1_indexOfChar_24 : RW M_J_Latin1_indexOfChar 24 .ireturn 25 1 := ⟨by decide +kernel, rfl⟩
theorem r_J_Latin1_indexOf_0 : RL M_J_Latin1_indexOf 0 1 1 := Or.inl ⟨1, by decide +kernel, rfl, rfl⟩
theorem r_J_Latin1_indexOf_1 : RKs M_J_Latin1_indexOf M_J_Latin1_canEncode 1 1 4 := ⟨88, by decide +kernel, Or.inl wd_m194_88, ok_M_J_Latin1_canEncode, rfl⟩
theorem r_J_Latin1_indexOf_4 : RB M_J_Latin1_indexOf 4 (.ifCond .ne) 9 7 := ⟨5, by decide +kernel, rfl, rfl⟩
theorem r_J_Latin1_indexOf_9 : RL M_J_Latin1_indexOf 9 2 10 := Or.inl ⟨2, by decide +kernel, rfl, rfl⟩
theorem r_J_Latin1_indexOf_10 : RC M_J_Latin1_indexOf 10 0 11 := ⟨⟨by decide, by decide⟩, Or.inl ⟨by decide +kernel, rfl⟩⟩
theorem r_J_Latin1_indexOf_11 : RKm M_J_Latin1_indexOf 11 Lib.Math.max.name 14 := ⟨92, by decide +kernel, wd_m194_92, rfl⟩
theorem r_J_Latin1_indexOf_14 : RS M_J_Latin1_indexOf 14 2 15 := ⟨by decide, Or.inl ⟨2, by decide +kernel, rfl, rfl⟩⟩
theorem r_J_Latin1_indexOf_15 : RL M_J_Latin1_indexOf 15 3 16 := Or.inl ⟨3, by decide +kernel, rfl, rfl⟩
theorem r_J_Latin1_indexOf_16 : RA M_J_Latin1_indexOf 16 0 17 := Or.inl ⟨0, by decide +kernel, rfl, rfl⟩
theorem r_J_Latin1_indexOf_17 : RW M_J_Latin1_indexOf 17 .arraylength 18 1 := ⟨by decide +kernel, rfl⟩
theorem r_J_Latin1_indexOf_18 : RKm M_J_Latin1_indexOf 18 Lib.Math.min.name 21 := ⟨38, by decide +kernel, wd_m194_38, rfl⟩
theorem r_J_Latin1_indexOf_21 : RS M_J_Latin1_indexOf 21 3 22 := ⟨by decide, Or.inl ⟨3, by decide +kernel, rfl, rfl⟩⟩
theorem r_J_Latin1_indexOf_22 : RL M_J_Latin1_indexOf 22 2 23 := Or.inl ⟨2, by decide +kernel, rfl, rfl⟩
theorem r_J_Latin1_indexOf_23 : RL M_J_Latin1_indexOf 23 3 24 := Or.inl ⟨3, by decide +kernel, rfl, rfl⟩
theorem r_J_Latin1_indexOf_24 : RB M_J_Latin1_indexOf 24 (.if_icmp .lt) 29 27 := ⟨5, by decide +kernel, rfl, rfl⟩
theorem r_J_Latin1_indexOf_29 : RA M_J_Latin1_indexOf 29 0 30 := Or.inl ⟨0, by decide +kernel, rfl, rfl⟩
theorem r_J_Latin1_indexOf_30 : RL M_J_Latin1_indexOf 30 1 31 := Or.inl ⟨1, by decide +kernel, rfl, rfl⟩
theorem r_J_Latin1_indexOf_31 : RL M_J_Latin1_indexOf 31 2 32 := Or.inl ⟨2, by decide +kernel, rfl, rfl⟩
theorem r_J_Latin1_indexOf_32 : RL M_J_Latin1_indexOf 32 3 33 := Or.inl ⟨3, by decide +kernel, rfl, rfl⟩
theorem r_J_Latin1_indexOf_33 : RKs M_J_Latin1_indexOf M_J_Latin1_indexOfChar 33 4 36 := ⟨95, by decide +kernel, Or.inl wd_m194_95, ok_M_J_Latin1_indexOfChar, rfl⟩
theorem r_J_Latin1_indexOf_36 : RW M_J_Latin1_indexOf 36 .ireturn 37 1 := ⟨by decide +kernel, rfl⟩
theorem r_J_Latin1_indexOf_7 : RC M_J_Latin1_indexOf 7 (-1) 8 := ⟨⟨by decide, by decide⟩, Or.inl ⟨by decide +kernel, rfl⟩⟩
theorem r_J_Latin1_indexOf_8 : RW M_J_Latin1_indexOf 8 .ireturn 9 1 := ⟨by decide +kernel, rfl⟩
theorem r_J_String_indexOf2_0 : RA M_J_String_indexOf2 0 0 1 := Or.inl ⟨0, by decide +kernel, rfl, rfl⟩
theorem r_J_String_indexOf2_1 : RKt M_J_String_indexOf2 M_J_String_isLatin1 1 0 4 := ⟨492, by decide +kernel, wd_m192_492, ok_M_J_String_isLatin1, wd_sJ_String_isLatin1, rfl⟩
theorem r_J_String_indexOf2_4 : RB M_J_String_indexOf2 4 (.ifCond .eq) 23 7 := ⟨19, by decide +kernel, rfl, rfl⟩
theorem r_J_String_indexOf2_7 : RA M_J_String_indexOf2 7 0 8 := Or.inl ⟨0, by decide +kernel, rfl, rfl⟩
theorem r_J_String_indexOf2_8 : RGT M_J_String_indexOf2 8 "value" "[B" 11 := ⟨9, by decide +kernel, wd_f192_9, rfl⟩
theorem r_J_String_indexOf2_11 : RL M_J_String_indexOf2 11 1 12 := Or.inl ⟨1, by decide +kernel, rfl, rfl⟩
theorem r_J_String_indexOf2_12 : RL M_J_String_indexOf2 12 2 13 := Or.inl ⟨2, by decide +kernel, rfl, rfl⟩
theorem r_J_String_indexOf2_13 : RA M_J_String_indexOf2 13 0 14 := Or.inl ⟨0, by decide +kernel, rfl, rfl⟩
theorem r_J_String_indexOf2_14 : RKt M_J_String_indexOf2 M_J_String_length 14 0 17 := ⟨505, by decide +kernel, wd_m192_505, ok_M_J_String_length, wd_sJ_String_length, rfl⟩
theorem r_J_String_indexOf2_17 : RKs M_J_String_indexOf2 M_J_Latin1_indexOf 17 4 20 := ⟨637, by decide +kernel, Or.inl wd_m192_637, ok_M_J_Latin1_indexOf, rfl⟩
theorem r_J_String_indexOf2_20 : RB M_J_String_indexOf2 20 .goto 36 23 := ⟨16, by decide +kernel, rfl, rfl⟩
theorem r_J_String_indexOf2_36 : RW M_J_String_indexOf2 36 .ireturn 37 1 := ⟨by decide +kernel, rfl⟩
theorem r_J_String_indexOf1_0 : RA M_J_String_indexOf1 0 0 1 := Or.inl ⟨0, by decide +kernel, rfl, rfl⟩
theorem r_J_String_indexOf1_1 : RL M_J_String_indexOf1 1 1 2 := Or.inl ⟨1, by decide +kernel, rfl, rfl⟩
theorem r_J_String_indexOf1_2 : RC M_J_String_indexOf1 2 0 3 := ⟨⟨by decide, by decide⟩, Or.inl ⟨by decide +kernel, rfl⟩⟩
theorem r_J_String_indexOf1_3 : RKt M_J_String_indexOf1 M_J_String_indexOf2 3 2 6 := ⟨633, by decide +kernel, wd_m192_633, ok_M_J_String_indexOf2, wd_sJ_String_indexOf2, rfl⟩
theorem r_J_String_indexOf1_6 : RW M_J_String_indexOf1 6 .ireturn 7 1 := ⟨by decide +kernel, rfl⟩
set_option maxRecDepth 10000 in
theorem sp_J_String_coder {l : Launch} {w : Wo} {d : Nat} {G : PH} {P : Option PV → PH → Prop} (hP : P (some (vI 0)) G) : PW l w M_J_String_coder (d + 0) 0 [some (vR 192 (0))] [] G P := by
  refine pw_gsCS r_J_String_coder_0 ?_
  refine pw_if_eq r_J_String_coder_3 (fun h03 => absurd h03 (by decide)) (fun h03 => ?_)
  refine pw_aload r_J_String_coder_6 rfl ?_
  refine pw_getCoder r_J_String_coder_7 ?_
  refine pw_goto r_J_String_coder_10 ?_
  refine pw_bret r_J_String_coder_14 rfl (Nat.le_refl _) ⟨rfl, ?_⟩
  exact hP
set_option maxRecDepth 10000 in
theorem sp_J_String_isLatin1 {l : Launch} {w : Wo} {d : Nat} {G : PH} {P : Option PV → PH → Prop} (hP : P (some (vI 1)) G) : PW l w M_J_String_isLatin1 (d + 0) 0 [some (vR 192 (0))] [] G P := by
  refine pw_gsCS r_J_String_isLatin1_0 ?_
  refine pw_if_eq r_J_String_isLatin1_3 (fun h03 => absurd h03 (by decide)) (fun h03 => ?_)
  refine pw_aload r_J_String_isLatin1_6 rfl ?_
  refine pw_getCoder r_J_String_isLatin1_7 ?_
  refine pw_if_ne r_J_String_isLatin1_10 (fun h10 => absurd h10 (by decide)) (fun h10 => ?_)
  refine pw_const r_J_String_isLatin1_13 ?_
  refine pw_goto r_J_String_isLatin1_14 ?_
  refine pw_zret r_J_String_isLatin1_18 rfl (Or.inr rfl) (Nat.le_refl _) ⟨rfl, ?_⟩
  exact hP
set_option maxRecDepth 10000 in
theorem sp_J_String_length {l : Launch} {w : Wo} {d : Nat} {G : PH} {P : Option PV → PH → Prop} (hP : P (some (vI 9)) G) : PW l w M_J_String_length (d + 1) 0 [some (vR 192 (0))] [] G P := by
  refine pw_aload r_J_String_length_0 rfl ?_
  refine pw_getValue r_J_String_length_1 ?_
  refine pw_alen193 r_J_String_length_4 ?_
  refine pw_aload r_J_String_length_5 rfl ?_
  refine pw_callT (av := []) (st := [vI (9)]) (ls0 := [some (vR 192 (0))]) r_J_String_length_6 rfl rfl rfl (Nat.le_refl _) ?_
  refine sp_J_String_coder  ?_
  refine pw_ishr r_J_String_length_9 ?_
  refine pw_top (b := 9) (by decide +kernel) ?_
  refine pw_iret r_J_String_length_10 rfl (Nat.le_refl _) ⟨rfl, ?_⟩
  exact hP
set_option maxRecDepth 10000 in
theorem sp_J_Latin1_canEncode {l : Launch} {w : Wo} {d : Nat} {G : PH} {P : Option PV → PH → Prop} {c : Int} (h1 : 0 ≤ c → c ≤ 255 → P (some (vI 1)) G) (h2 : (c < 0 ∨ 255 < c) → P (some (vI 0)) G) : PW l w M_J_Latin1_canEncode (d + 0) 0 [some (vI (c))] [] G P := by
  refine pw_iload r_J_Latin1_canEncode_0 rfl ?_
  refine pw_if_lt r_J_Latin1_canEncode_1 (fun h01 => ?_) (fun h01 => ?_)
  · skip
    refine pw_const r_J_Latin1_canEncode_15 ?_
    refine pw_zret r_J_Latin1_canEncode_16 rfl (Or.inl rfl) (Nat.le_refl _) ⟨rfl, ?_⟩
    first | exact h1 (by omega) (by omega) | exact h2 (by omega)
  · skip
    refine pw_iload r_J_Latin1_canEncode_4 rfl ?_
    refine pw_const r_J_Latin1_canEncode_5 ?_
    refine pw_icmp_gt r_J_Latin1_canEncode_8 (fun h08 => ?_) (fun h08 => ?_)
    · skip
      refine pw_const r_J_Latin1_canEncode_15 ?_
      refine pw_zret r_J_Latin1_canEncode_16 rfl (Or.inl rfl) (Nat.le_refl _) ⟨rfl, ?_⟩
      first | exact h1 (by omega) (by omega) | exact h2 (by omega)
    · skip
      refine pw_const r_J_Latin1_canEncode_11 ?_
      refine pw_goto r_J_Latin1_canEncode_12 ?_
      refine pw_zret r_J_Latin1_canEncode_16 rfl (Or.inr rfl) (Nat.le_refl _) ⟨rfl, ?_⟩
      first | exact h1 (by omega) (by omega) | exact h2 (by omega)
set_option maxRecDepth 10000 in
theorem sp_J_Latin1_indexOfChar {l : Launch} {w : Wo} {d : Nat} {G : PH} {P : Option PV → PH → Prop} {c : Int} (hc0 : 0 ≤ c) (hc1 : c ≤ 255) (hP : P (some (vI (nmIx c))) G) : PW l w M_J_Latin1_indexOfChar (d + 0) 0 [some (vR 193 (0)), some (vI (c)), some (vI (0)), some (vI (9)), none, none] [] G P := by
  refine pw_iload r_J_Latin1_indexOfChar_0 rfl ?_
  refine pw_i2b r_J_Latin1_indexOfChar_1 ?_
  refine pw_istore (ls' := [some (vR 193 (0)), some (vI (c)), some (vI (0)), some (vI (9)), some (vI (b8 c)), none]) r_J_Latin1_indexOfChar_2 rfl rfl ?_
  refine pw_iload r_J_Latin1_indexOfChar_4 rfl ?_
  refine pw_istore (ls' := [some (vR 193 (0)), some (vI (c)), some (vI (0)), some (vI (9)), some (vI (b8 c)), some (vI (0))]) r_J_Latin1_indexOfChar_5 rfl rfl ?_
  have L7 : ∀ (nF : Nat) (i : Int), (hi : 0 ≤ i ∧ i ≤ 9) → (hn : ∀ j, 0 ≤ j → j < i → c ≠ stB j) → (9 - i).toNat < nF → PW l w M_J_Latin1_indexOfChar (d + 0) 7 [some (vR 193 (0)), some (vI (c)), some (vI (0)), some (vI (9)), some (vI (b8 c)), some (vI (i))] [] G P := by
    intro nF
    induction nF with
    | zero => intro _ _ _ hM; exact absurd hM (Nat.not_lt_zero _)
    | succ nF ih7 =>
      intro i hi hn hM7
      refine pw_iload r_J_Latin1_indexOfChar_7 rfl ?_
      refine pw_iload r_J_Latin1_indexOfChar_9 rfl ?_
      refine pw_icmp_ge r_J_Latin1_indexOfChar_10 (fun h10 => ?_) (fun h10 => ?_)
      · skip
        refine pw_const r_J_Latin1_indexOfChar_31 ?_
        refine pw_iret r_J_Latin1_indexOfChar_32 rfl (Nat.le_refl _) ⟨rfl, ?_⟩
        rw [nm_none (fun j a b => hn j a (by omega))] at hP
        exact hP
      · skip
        refine pw_aload r_J_Latin1_indexOfChar_13 rfl ?_
        refine pw_iload r_J_Latin1_indexOfChar_14 rfl ?_
        refine pw_bal193 r_J_Latin1_indexOfChar_16 (by omega) (by omega) ?_
        refine pw_iload r_J_Latin1_indexOfChar_17 rfl ?_
        refine pw_icmp_ne r_J_Latin1_indexOfChar_19 (fun h19 => ?_) (fun h19 => ?_)
        · skip
          refine pw_iinc (b := 0) (ls' := [some (vR 193 (0)), some (vI (c)), some (vI (0)), some (vI (9)), some (vI (b8 c)), some (vI ((i + 1)))]) r_J_Latin1_indexOfChar_25 rfl rfl (by omega) rfl ?_
          refine pw_goto r_J_Latin1_indexOfChar_28 ?_
          exact ih7 ((i + 1)) (by omega) (fun j a b => by rcases (show j < i ∨ j = i by omega) with q | q; exact hn j a q; rw [q]; exact fun e => h19 ((b8_eq hc0 hc1 (stB_nm (c := c) hi.1 (by omega)).1.1 (stB_nm (c := c) hi.1 (by omega)).1.2).mpr e).symm) (by omega)
        · skip
          refine pw_iload r_J_Latin1_indexOfChar_22 rfl ?_
          refine pw_iret r_J_Latin1_indexOfChar_24 rfl (Nat.le_refl _) ⟨rfl, ?_⟩
          rw [(stB_nm hi.1 (by omega)).2 ((b8_eq hc0 hc1 (stB_nm (c := c) hi.1 (by omega)).1.1 (stB_nm (c := c) hi.1 (by omega)).1.2).mp h19.symm)] at hP
          exact hP
  exact L7 _ (0) (by omega) (fun j a b => by omega) (Nat.lt_succ_self _)
set_option maxRecDepth 10000 in
theorem sp_J_Latin1_indexOf {l : Launch} {w : Wo} {d : Nat} {G : PH} {P : Option PV → PH → Prop} {c : Int} (hP : P (some (vI (nmIx c))) G) : PW l w M_J_Latin1_indexOf (d + 1) 0 [some (vR 193 (0)), some (vI (c)), some (vI (0)), some (vI (9))] [] G P := by
  refine pw_iload r_J_Latin1_indexOf_0 rfl ?_
  refine pw_callS (av := [vI (c)]) (st := []) (ls0 := [some (vI (c))]) r_J_Latin1_indexOf_1 rfl rfl rfl (Nat.le_refl _) ?_
  refine sp_J_Latin1_canEncode  ?_ ?_
  · skip
    intro q1 q2
    refine pw_if_ne r_J_Latin1_indexOf_4 (fun h04 => ?_) (fun h04 => absurd h04 (by decide))
    refine pw_iload r_J_Latin1_indexOf_9 rfl ?_
    refine pw_const r_J_Latin1_indexOf_10 ?_
    refine pw_mmax r_J_Latin1_indexOf_11 rfl (Nat.le_of_ble_eq_true rfl) (Nat.le_refl _) ?_
    refine pw_top (b := 0) (by decide) ?_
    refine pw_istore (ls' := [some (vR 193 (0)), some (vI (c)), some (vI (0)), some (vI (9))]) r_J_Latin1_indexOf_14 rfl rfl ?_
    refine pw_iload r_J_Latin1_indexOf_15 rfl ?_
    refine pw_aload r_J_Latin1_indexOf_16 rfl ?_
    refine pw_alen193 r_J_Latin1_indexOf_17 ?_
    refine pw_mmin r_J_Latin1_indexOf_18 rfl (Nat.le_of_ble_eq_true rfl) (Nat.le_refl _) ?_
    refine pw_top (b := 9) (by decide) ?_
    refine pw_istore (ls' := [some (vR 193 (0)), some (vI (c)), some (vI (0)), some (vI (9))]) r_J_Latin1_indexOf_21 rfl rfl ?_
    refine pw_iload r_J_Latin1_indexOf_22 rfl ?_
    refine pw_iload r_J_Latin1_indexOf_23 rfl ?_
    refine pw_icmp_lt r_J_Latin1_indexOf_24 (fun h24 => ?_) (fun h24 => absurd h24 (by decide))
    refine pw_aload r_J_Latin1_indexOf_29 rfl ?_
    refine pw_iload r_J_Latin1_indexOf_30 rfl ?_
    refine pw_iload r_J_Latin1_indexOf_31 rfl ?_
    refine pw_iload r_J_Latin1_indexOf_32 rfl ?_
    refine pw_callS (av := [vR 193 (0), vI (c), vI (0), vI (9)]) (st := []) (ls0 := [some (vR 193 (0)), some (vI (c)), some (vI (0)), some (vI (9)), none, none]) r_J_Latin1_indexOf_33 rfl rfl rfl (Nat.le_refl _) ?_
    refine sp_J_Latin1_indexOfChar (by first | assumption | exact hc0 | omega) (by first | assumption | exact hc1 | omega) ?_
    refine pw_iret r_J_Latin1_indexOf_36 rfl (Nat.le_refl _) ⟨rfl, ?_⟩
    exact hP
  · skip
    intro q1
    refine pw_if_ne r_J_Latin1_indexOf_4 (fun h04 => absurd h04 (by decide)) (fun h04 => ?_)
    refine pw_const r_J_Latin1_indexOf_7 ?_
    refine pw_iret r_J_Latin1_indexOf_8 rfl (Nat.le_refl _) ⟨rfl, ?_⟩
    rw [nm_out q1] at hP
    exact hP
set_option maxRecDepth 10000 in
theorem sp_J_String_indexOf2 {l : Launch} {w : Wo} {d : Nat} {G : PH} {P : Option PV → PH → Prop} {c : Int} (hP : P (some (vI (nmIx c))) G) : PW l w M_J_String_indexOf2 (d + 2) 0 [some (vR 192 (0)), some (vI (c)), some (vI (0))] [] G P := by
  refine pw_aload r_J_String_indexOf2_0 rfl ?_
  refine pw_callT (av := []) (st := []) (ls0 := [some (vR 192 (0))]) r_J_String_indexOf2_1 rfl rfl rfl (Nat.le_refl _) ?_
  refine sp_J_String_isLatin1  ?_
  refine pw_if_eq r_J_String_indexOf2_4 (fun h04 => absurd h04 (by decide)) (fun h04 => ?_)
  refine pw_aload r_J_String_indexOf2_7 rfl ?_
  refine pw_getValue r_J_String_indexOf2_8 ?_
  refine pw_iload r_J_String_indexOf2_11 rfl ?_
  refine pw_iload r_J_String_indexOf2_12 rfl ?_
  refine pw_aload r_J_String_indexOf2_13 rfl ?_
  refine pw_callT (av := []) (st := [vI (0), vI (c), vR 193 (0)]) (ls0 := [some (vR 192 (0))]) r_J_String_indexOf2_14 rfl rfl rfl (Nat.le_refl _) ?_
  refine sp_J_String_length  ?_
  refine pw_callS (av := [vR 193 (0), vI (c), vI (0), vI (9)]) (st := []) (ls0 := [some (vR 193 (0)), some (vI (c)), some (vI (0)), some (vI (9))]) r_J_String_indexOf2_17 rfl rfl rfl (Nat.le_refl _) ?_
  refine sp_J_Latin1_indexOf  ?_
  refine pw_goto r_J_String_indexOf2_20 ?_
  refine pw_iret r_J_String_indexOf2_36 rfl (Nat.le_refl _) ⟨rfl, ?_⟩
  exact hP
set_option maxRecDepth 10000 in
theorem sp_J_String_indexOf1 {l : Launch} {w : Wo} {d : Nat} {G : PH} {P : Option PV → PH → Prop} {c : Int} (hP : P (some (vI (nmIx c))) G) : PW l w M_J_String_indexOf1 (d + 3) 0 [some (vR 192 (0)), some (vI (c))] [] G P := by
  refine pw_aload r_J_String_indexOf1_0 rfl ?_
  refine pw_iload r_J_String_indexOf1_1 rfl ?_
  refine pw_const r_J_String_indexOf1_2 ?_
  refine pw_callT (av := [vI (c), vI (0)]) (st := []) (ls0 := [some (vR 192 (0)), some (vI (c)), some (vI (0))]) r_J_String_indexOf1_3 rfl rfl rfl (Nat.le_refl _) ?_
  refine sp_J_String_indexOf2  ?_
  refine pw_iret r_J_String_indexOf1_6 rfl (Nat.le_refl _) ⟨rfl, ?_⟩
  exact hP
