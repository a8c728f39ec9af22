theorem wd_inst11 : Cond.instantiable RX11 9 ∈ UW := UW1_at 23 (by decide +kernel) rfl
theorem wd_inst12 : Cond.instantiable RX12 109 ∈ UW := UW7_at 63 (by decide +kernel) rfl

theorem LT1_at {w : Cond} (i : Nat) (h : tables_1_1[i]? = some w) : w ∈ lw_tbl := List.mem_append_right _ (show w ∈ tables_1_1 ++ (tables_1_2 ++ (tables_1_3 ++ (tables_1_4 ++ (tables_1_5 ++ (tables_1_6 ++ (tables_1_7 ++ (tables_1_8 ++ (tables_1_9 ++ tables_1_10)))))))) from (List.mem_append_left _ (List.mem_of_getElem? h)))
theorem LT2_at {w : Cond} (i : Nat) (h : tables_1_2[i]? = some w) : w ∈ lw_tbl := List.mem_append_right _ (show w ∈ tables_1_1 ++ (tables_1_2 ++ (tables_1_3 ++ (tables_1_4 ++ (tables_1_5 ++ (tables_1_6 ++ (tables_1_7 ++ (tables_1_8 ++ (tables_1_9 ++ tables_1_10)))))))) from (List.mem_append_right _ (List.mem_append_left _ (List.mem_of_getElem? h))))
theorem LT3_at {w : Cond} (i : Nat) (h : tables_1_3[i]? = some w) : w ∈ lw_tbl := List.mem_append_right _ (show w ∈ tables_1_1 ++ (tables_1_2 ++ (tables_1_3 ++ (tables_1_4 ++ (tables_1_5 ++ (tables_1_6 ++ (tables_1_7 ++ (tables_1_8 ++ (tables_1_9 ++ tables_1_10)))))))) from (List.mem_append_right _ (List.mem_append_right _ (List.mem_append_left _ (List.mem_of_getElem? h)))))
theorem LT4_at {w : Cond} (i : Nat) (h : tables_1_4[i]? = some w) : w ∈ lw_tbl := List.mem_append_right _ (show w ∈ tables_1_1 ++ (tables_1_2 ++ (tables_1_3 ++ (tables_1_4 ++ (tables_1_5 ++ (tables_1_6 ++ (tables_1_7 ++ (tables_1_8 ++ (tables_1_9 ++ tables_1_10)))))))) from (List.mem_append_right _ (List.mem_append_right _ (List.mem_append_right _ (List.mem_append_left _ (List.mem_of_getElem? h))))))
theorem LT5_at {w : Cond} (i : Nat) (h : tables_1_5[i]? = some w) : w ∈ lw_tbl := List.mem_append_right _ (show w ∈ tables_1_1 ++ (tables_1_2 ++ (tables_1_3 ++ (tables_1_4 ++ (tables_1_5 ++ (tables_1_6 ++ (tables_1_7 ++ (tables_1_8 ++ (tables_1_9 ++ tables_1_10)))))))) from (List.mem_append_right _ (List.mem_append_right _ (List.mem_append_right _ (List.mem_append_right _ (List.mem_append_left _ (List.mem_of_getElem? h)))))))
theorem LT6_at {w : Cond} (i : Nat) (h : tables_1_6[i]? = some w) : w ∈ lw_tbl := List.mem_append_right _ (show w ∈ tables_1_1 ++ (tables_1_2 ++ (tables_1_3 ++ (tables_1_4 ++ (tables_1_5 ++ (tables_1_6 ++ (tables_1_7 ++ (tables_1_8 ++ (tables_1_9 ++ tables_1_10)))))))) from (List.mem_append_right _ (List.mem_append_right _ (List.mem_append_right _ (List.mem_append_right _ (List.mem_append_right _ (List.mem_append_left _ (List.mem_of_getElem? h))))))))
theorem LT7_at {w : Cond} (i : Nat) (h : tables_1_7[i]? = some w) : w ∈ lw_tbl := List.mem_append_right _ (show w ∈ tables_1_1 ++ (tables_1_2 ++ (tables_1_3 ++ (tables_1_4 ++ (tables_1_5 ++ (tables_1_6 ++ (tables_1_7 ++ (tables_1_8 ++ (tables_1_9 ++ tables_1_10)))))))) from (List.mem_append_right _ (List.mem_append_right _ (List.mem_append_right _ (List.mem_append_right _ (List.mem_append_right _ (List.mem_append_right _ (List.mem_append_left _ (List.mem_of_getElem? h)))))))))
theorem LT8_at {w : Cond} (i : Nat) (h : tables_1_8[i]? = some w) : w ∈ lw_tbl := List.mem_append_right _ (show w ∈ tables_1_1 ++ (tables_1_2 ++ (tables_1_3 ++ (tables_1_4 ++ (tables_1_5 ++ (tables_1_6 ++ (tables_1_7 ++ (tables_1_8 ++ (tables_1_9 ++ tables_1_10)))))))) from (List.mem_append_right _ (List.mem_append_right _ (List.mem_append_right _ (List.mem_append_right _ (List.mem_append_right _ (List.mem_append_right _ (List.mem_append_right _ (List.mem_append_left _ (List.mem_of_getElem? h))))))))))
theorem LT9_at {w : Cond} (i : Nat) (h : tables_1_9[i]? = some w) : w ∈ lw_tbl := List.mem_append_right _ (show w ∈ tables_1_1 ++ (tables_1_2 ++ (tables_1_3 ++ (tables_1_4 ++ (tables_1_5 ++ (tables_1_6 ++ (tables_1_7 ++ (tables_1_8 ++ (tables_1_9 ++ tables_1_10)))))))) from (List.mem_append_right _ (List.mem_append_right _ (List.mem_append_right _ (List.mem_append_right _ (List.mem_append_right _ (List.mem_append_right _ (List.mem_append_right _ (List.mem_append_right _ (List.mem_append_left _ (List.mem_of_getElem? h)))))))))))
theorem LT10_at {w : Cond} (i : Nat) (h : tables_1_10[i]? = some w) : w ∈ lw_tbl := List.mem_append_right _ (show w ∈ tables_1_1 ++ (tables_1_2 ++ (tables_1_3 ++ (tables_1_4 ++ (tables_1_5 ++ (tables_1_6 ++ (tables_1_7 ++ (tables_1_8 ++ (tables_1_9 ++ tables_1_10)))))))) from (List.mem_append_right _ (List.mem_append_right _ (List.mem_append_right _ (List.mem_append_right _ (List.mem_append_right _ (List.mem_append_right _ (List.mem_append_right _ (List.mem_append_right _ (List.mem_append_right _ (List.mem_of_getElem? h)))))))))))

theorem inst_in : ∀ (k : Nat) (q : vw_C), classes[k]? = some q → Cond.instantiable q.1 q.2.2 ∈ UW := by
  intro k q h
  match k, h with
  | 0, h => cases h; exact wd_inst0
  | 1, h => cases h; exact wd_inst1
  | 2, h => cases h; exact wd_inst2
  | 3, h => cases h; exact wd_inst3
  | 4, h => cases h; exact wd_inst4
  | 5, h => cases h; exact wd_inst5
  | 6, h => cases h; exact wd_inst6
  | 7, h => cases h; exact wd_inst7
  | 8, h => cases h; exact wd_inst8
  | 9, h => cases h; exact wd_inst9
  | 10, h => cases h; exact wd_inst10
  | 11, h => cases h; exact wd_inst11
  | 12, h => cases h; exact wd_inst12
  | n + 13, h => exact absurd h (by simp [classes])
theorem nest_in : ∀ q ∈ nestQ, nw q ∈ lw_tbl := by
  unfold nestQ
  refine List.forall_mem_cons.mpr ⟨?_, List.forall_mem_cons.mpr ⟨?_, List.forall_mem_cons.mpr ⟨?_, List.forall_mem_cons.mpr ⟨?_, List.forall_mem_cons.mpr ⟨?_, List.forall_mem_cons.mpr ⟨?_, List.forall_mem_cons.mpr ⟨?_, List.forall_mem_cons.mpr ⟨?_, List.forall_mem_cons.mpr ⟨?_, List.forall_mem_cons.mpr ⟨?_, List.forall_mem_cons.mpr ⟨?_, List.forall_mem_cons.mpr ⟨?_, List.forall_mem_cons.mpr ⟨?_, List.forall_mem_cons.mpr ⟨?_, List.forall_mem_cons.mpr ⟨?_, List.forall_mem_cons.mpr ⟨?_, List.forall_mem_cons.mpr ⟨?_, List.forall_mem_cons.mpr ⟨?_, List.forall_mem_cons.mpr ⟨?_, List.forall_mem_cons.mpr ⟨?_, List.forall_mem_cons.mpr ⟨?_, List.forall_mem_cons.mpr ⟨?_, List.forall_mem_cons.mpr ⟨?_, fun _ h => absurd h List.not_mem_nil⟩⟩⟩⟩⟩⟩⟩⟩⟩⟩⟩⟩⟩⟩⟩⟩⟩⟩⟩⟩⟩⟩⟩
  · exact LT1_at 32 (by decide +kernel)
  · exact LT1_at 190 (by decide +kernel)
  · exact LT2_at 171 (by decide +kernel)
  · exact LT2_at 206 (by decide +kernel)
  · exact LT3_at 34 (by decide +kernel)
  · exact LT3_at 65 (by decide +kernel)
  · exact LT3_at 68 (by decide +kernel)
  · exact LT4_at 31 (by decide +kernel)
  · exact LT4_at 49 (by decide +kernel)
  · exact LT4_at 50 (by decide +kernel)
  · exact LT4_at 102 (by decide +kernel)
  · exact LT4_at 114 (by decide +kernel)
  · exact LT5_at 64 (by decide +kernel)
  · exact LT5_at 80 (by decide +kernel)
  · exact LT5_at 81 (by decide +kernel)
  · exact LT5_at 194 (by decide +kernel)
  · exact LT6_at 34 (by decide +kernel)
  · exact LT6_at 44 (by decide +kernel)
  · exact LT6_at 88 (by decide +kernel)
  · exact LT6_at 135 (by decide +kernel)
  · exact LT6_at 144 (by decide +kernel)
  · exact LT6_at 167 (by decide +kernel)
  · exact LT6_at 223 (by decide +kernel)
theorem el_A : ∀ j, j < 8 → Cond.eq (.elem (.static "NameRolls$Person" "ABOVE" "[I") (.int (Int32.ofNat j))) (.int (Int32.ofInt (abT.getD j 0))) ∈ flatC (Jvm.Cond.and given_1 narrow_1) := by decide +kernel
theorem el_B : ∀ j, j < 24 → Cond.eq (.elem (.static "NameRolls$Person" "BODIES" "[I") (.int (Int32.ofNat j))) (.int (Int32.ofInt (boT.getD j 0))) ∈ flatC (Jvm.Cond.and given_1 narrow_1) := by decide +kernel
theorem el_S : ∀ j, j < 9 → Cond.eq (.elem (.field (.string "NameRolls$Reader" 65) "java/lang/String" "value" "[B") (.int (Int32.ofNat j))) (.int (strB.getD j 0)) ∈ flatC (Jvm.Cond.and given_1 narrow_1) := by decide +kernel
def alP (base a b c d : Nat) : Nat → Int → Nat := fun k r => if k = 190 then a else if k = 191 then b else if k = 192 then c else if k = 193 then d else base + offn k r
theorem alP_ok {base a b c d : Nat} {k : Nat} {r : Int} (h : k < 190 ∨ 194 ≤ k) : alP base a b c d k r = base + offn k r := by
  unfold alP
  rw [if_neg (by omega), if_neg (by omega), if_neg (by omega), if_neg (by omega)]
theorem entry {s : State} {b : Nat} (hts : ∀ w ∈ lw_tbl, w.before #[Value.ref b] s = true) (hgv : (Jvm.Cond.and given_1 narrow_1).before #[Value.ref b] s = true) : ∃ w : Wo, w.1.2 = 0 ∧ w.2.2.2 = s.heap.size ∧ AlOk w ∧ Kw w s ∧ Kb s ∧ Ro w s s.heap := by
  have hg := flat_of_before _ hgv
  have hU : ∀ x ∈ UW, x.before #[Value.ref b] s = true := fun x hx => hts x (List.mem_filter.mp hx).1
  have hB : Kb s := ⟨va_AO.of (hts _ (LT1_at 67 (by decide +kernel))), AOA.of (hts _ (LT2_at 22 (by decide +kernel))), AOA.of (hts _ (LT1_at 218 (by decide +kernel))), AOA.of (hts _ (LT2_at 24 (by decide +kernel)))⟩
  have hcl : ∀ k : Nat, ∃ q : ClassId × (Nat → Nat), ∀ v : vw_C, classes[k]? = some v → u_Kn s v.1 v.2.1 v.2.2 q.1 q.2 := by
    intro k
    cases hv : classes[k]? with
    | none => exact ⟨(0, fun _ => 0), fun v h => by cases h⟩
    | some v =>
      obtain ⟨c, i, h⟩ := u_known hU (cls_ok k v hv).1 (hU _ (inst_in k v hv))
      exact ⟨(c, i), fun v' h' => by cases h'; exact h⟩
  obtain ⟨f, hf⟩ := Classical.axiomOfChoice hcl
  have har : ∀ t : Nat, ∃ cA : ClassId, t < 8 → ArrOfT s cA (aty t) ∧ va_RA s cA (aty t) := by
    intro t
    by_cases h4 : t < 4
    · obtain ⟨c, k, comp, h1, h2, h3⟩ := Cond.arrayClass_spec (hU _ (arrw t h4))
      refine ⟨c, fun _ => ⟨fun n z => ⟨fun k h => (by cases h), k, h2, comp, h3⟩, ?_⟩⟩
      rcases (show t = 0 ∨ t = 1 ∨ t = 2 ∨ t = 3 by omega) with rfl | rfl | rfl | rfl <;> exact h1
    · by_cases h7 : t < 7
      · have key : ∀ ty : FieldType, AOA ty s → ∃ cA : ClassId, ArrOfT s cA (.array ty) ∧ va_RA s cA (.array ty) := fun ty h => by
          obtain ⟨comp, c, k, h1, h2, h3, h4, h5⟩ := arrayOverA_spec (show (Cond.arrayOver (.array ty)).holds #[] s none s [] = true from h)
          exact ⟨c, fun n z => ⟨fun k h => (by cases h), k, h3, comp, h4⟩, h5⟩
        rcases (show t = 4 ∨ t = 5 ∨ t = 6 by omega) with rfl | rfl | rfl
        · obtain ⟨c, h⟩ := key .int hB.2.1; exact ⟨c, fun _ => h⟩
        · obtain ⟨c, h⟩ := key .byte hB.2.2.1; exact ⟨c, fun _ => h⟩
        · obtain ⟨c, h⟩ := key .short hB.2.2.2; exact ⟨c, fun _ => h⟩
      · by_cases h8 : t < 8
        · obtain ⟨comp, c, k, g1, g2, g3, g4, g5⟩ := Cond.arrayOver_spec (show (Cond.arrayOver (.object "NameRolls$Person")).holds #[] s none s [] = true from hB.1)
          have e : t = 7 := by omega
          subst e
          exact ⟨c, fun _ => ⟨fun n z => ⟨fun k h => (by cases h), k, g3, comp, g4⟩, k, comp, g3, g4, g1, g5⟩⟩
        · exact ⟨0, fun h => absurd h h8⟩
  obtain ⟨cA, hcA⟩ := Classical.axiomOfChoice har
  have hA : ∀ a : Nat, a < s.heap.size → ¬ (fun q : Nat => s.heap.size ≤ q) a := fun a h1 h2 => by
    have h2 : s.heap.size ≤ a := h2
    omega
  obtain ⟨tA, eA1, TA⟩ := va_Tof (A := (fun q : Nat => s.heap.size ≤ q)) (tm := (.static "NameRolls$Person" "ABOVE" "[I")) (ty := .int) (N := 8) (f := tbV abT) (by decide) (hg _ (by decide +kernel)) (va_eqt (hg _ (by decide +kernel))) (fun j hj => va_eqt (hg _ (el_A j hj))) hA
  obtain ⟨tB, eB1, TB⟩ := va_Tof (A := (fun q : Nat => s.heap.size ≤ q)) (tm := (.static "NameRolls$Person" "BODIES" "[I")) (ty := .int) (N := 24) (f := tbV boT) (by decide) (hg _ (by decide +kernel)) (va_eqt (hg _ (by decide +kernel))) (fun j hj => va_eqt (hg _ (el_B j hj))) hA
  have s1 : ∀ i : Nat, i < 1 → [9].getD i 0 < 2 ^ 31 := by decide
  have s5 : ∀ i : Nat, i < 1 → (Cond.eq (.length (.field (.string "NameRolls$Reader" 65) "java/lang/String" "value" "[B")) (.int (Int32.ofNat ([9].getD i 0)))).before #[Value.ref b] s = true := fun i hi => by
    have e : i = 0 := by omega
    subst e
    exact hg _ (by decide +kernel)
  have s6 : ∀ i : Nat, i < 1 → ∀ j : Nat, j < [9].getD i 0 → (Cond.eq (.elem (.field (.string "NameRolls$Reader" 65) "java/lang/String" "value" "[B") (.int (Int32.ofNat j))) (.int (([strB].getD i []).getD j 0))).before #[Value.ref b] s = true := fun i hi j hj => by
    have e : i = 0 := by omega
    subst e
    exact hg _ (el_S j hj)
  obtain ⟨adK, adV, hS, hev⟩ := vk_Sof (args := #[Value.ref b]) (A := (fun q : Nat => s.heap.size ≤ q)) (N := 1) (tm := fun _ => (.string "NameRolls$Reader" 65)) (len := [9]) (byt := [strB]) s1 (fun i hi => hg _ (by decide +kernel)) (fun i hi => hg _ (by decide +kernel)) (fun i hi => hg _ (by decide +kernel)) s5 s6 (fun i j hi hj hij => by exfalso; omega) hA
  refine ⟨((alP s.heap.size tA tB (adK 0) (adV 0), 0), (fun k => (f k).1, fun k => (f k).2), cA, s.heap.size), rfl, rfl, fun c r h => alP_ok h, ⟨⟨fun c q h => hf c q h, fun k q h => ?_⟩, fun q hq => va_Nw.of rfl (hts _ (nest_in q hq)), vk_R.of (hts _ (LT4_at 144 (by decide +kernel))) (hev 0 (by decide))⟩, hB,
    va_Zref (hts _ (LT6_at 231 (by decide +kernel))) (hts _ (LT1_at 14 (by decide +kernel))) eA1 hA, TA, va_Zref (hts _ (LT6_at 229 (by decide +kernel))) (hts _ (LT1_at 14 (by decide +kernel))) eB1 hA, TB, ⟨fun i hi => ?_, fun i j hi hj _ => by omega⟩, va_Zof (hts _ (LT4_at 158 (by decide +kernel))) (hts _ (LT1_at 15 (by decide +kernel))) (va_eqt (hg _ (by decide +kernel))) hA⟩
  · have h' : ((List.range 8).map fun t => (cA t, aty t))[k]? = some q := h
    rw [List.getElem?_map] at h'
    by_cases hk : k < 8
    · rw [List.getElem?_range hk] at h'
      cases h'
      exact hcA k hk
    · rw [List.getElem?_eq_none (by rw [List.length_range]; omega)] at h'
      cases h'
  · have e : i = 0 := by omega
    subst e
    exact hS.1 0 (by decide)
