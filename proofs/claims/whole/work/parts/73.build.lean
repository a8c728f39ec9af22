def offT (c : Nat) : Nat := match c with
  | 0 => 211
  | 1 => 7
  | 2 => 1
  | 4 => 30
  | 5 => 59
  | 6 => 226
  | 7 => 199
  | 8 => 29
  | 9 => 19
  | 10 => 175
  | 11 => 0
  | 12 => 232
  | 20 => 212
  | 21 => 213
  | 22 => 215
  | 23 => 216
  | 24 => 217
  | 25 => 219
  | 26 => 220
  | 27 => 222
  | 28 => 223
  | 29 => 225
  | 30 => 8
  | 31 => 9
  | 32 => 10
  | 33 => 11
  | 34 => 12
  | 35 => 13
  | 36 => 14
  | 37 => 15
  | 38 => 16
  | 39 => 17
  | 40 => 18
  | 41 => 2
  | 42 => 3
  | 43 => 4
  | 44 => 5
  | 45 => 6
  | 46 => 31
  | 47 => 60
  | 48 => 61
  | 49 => 62
  | 50 => 162
  | 51 => 163
  | 52 => 164
  | 53 => 165
  | 54 => 166
  | 55 => 167
  | 56 => 168
  | 57 => 169
  | 58 => 173
  | 59 => 174
  | 60 => 227
  | 61 => 228
  | 62 => 229
  | 63 => 230
  | 64 => 231
  | 65 => 200
  | 66 => 201
  | 67 => 202
  | 68 => 203
  | 69 => 204
  | 70 => 205
  | 71 => 206
  | 72 => 207
  | 73 => 208
  | 74 => 209
  | 75 => 210
  | 76 => 33
  | 77 => 34
  | 78 => 35
  | 79 => 55
  | 80 => 56
  | 81 => 57
  | 82 => 58
  | 83 => 20
  | 84 => 21
  | 85 => 22
  | 86 => 23
  | 87 => 24
  | 88 => 25
  | 89 => 26
  | 90 => 27
  | 91 => 28
  | 92 => 176
  | 93 => 177
  | 94 => 179
  | 95 => 180
  | 96 => 181
  | 97 => 182
  | 98 => 184
  | 99 => 185
  | 100 => 189
  | 101 => 190
  | 102 => 191
  | 103 => 192
  | 104 => 196
  | 105 => 197
  | 106 => 32
  | 107 => 224
  | 200 => 233
  | 201 => 234
  | 202 => 235
  | 203 => 236
  | 204 => 237
  | 205 => 238
  | 206 => 239
  | 207 => 240
  | 208 => 241
  | 209 => 242
  | 210 => 243
  | 211 => 244
  | 212 => 245
  | 213 => 246
  | 214 => 247
  | 215 => 248
  | 216 => 249
  | 217 => 250
  | 218 => 251
  | 219 => 252
  | 220 => 253
  | 221 => 254
  | 222 => 255
  | 223 => 256
  | 224 => 257
  | 225 => 258
  | 226 => 259
  | 227 => 260
  | 228 => 261
  | 229 => 262
  | 230 => 263
  | 231 => 264
  | 232 => 265
  | 233 => 266
  | 234 => 267
  | 235 => 268
  | 236 => 269
  | 237 => 270
  | 238 => 271
  | 239 => 272
  | 240 => 273
  | 241 => 274
  | 242 => 275
  | 243 => 276
  | 244 => 277
  | 245 => 278
  | 246 => 279
  | 247 => 280
  | 248 => 281
  | 249 => 282
  | 250 => 283
  | 251 => 284
  | 252 => 285
  | 253 => 286
  | 254 => 287
  | 255 => 288
  | 256 => 289
  | 257 => 290
  | 258 => 291
  | 259 => 292
  | 260 => 293
  | 261 => 294
  | 262 => 295
  | 263 => 296
  | 264 => 297
  | 265 => 298
  | 266 => 299
  | 267 => 300
  | 268 => 301
  | 269 => 302
  | 270 => 303
  | 271 => 304
  | 272 => 305
  | _ => 0
theorem arrw : ∀ t, t < 4 → Cond.arrayClass (aty t) ∈ UW := by
  intro t ht
  rcases (show t = 0 ∨ t = 1 ∨ t = 2 ∨ t = 3 by omega) with rfl | rfl | rfl | rfl
  · exact UW1_at 58 (by decide +kernel) rfl
  · exact UW1_at 216 (by decide +kernel) rfl
  · exact UW1_at 59 (by decide +kernel) rfl
  · exact UW2_at 66 (by decide +kernel) rfl
/-! Building: runs of constructors, the addresses told ahead. -/
def offn (c : Nat) (r : Int) : Nat := offT c + r.toNat
def AlOk (w : Wo) : Prop := ∀ (c : Nat) (r : Int), c < 190 ∨ 194 ≤ c → w.1.1 c r = w.2.2.2 + offn c r
abbrev eA (w : Wo) (G : PH) (p : PR) : Nat × va_E := (w.1.1 p.1 p.2, ent w G p.1 p.2)
theorem AOA.of {ty : FieldType} {A : Array Value} {U : State} (h : (Cond.arrayOver (.array ty)).before A U = true) : AOA ty U := h
theorem AOA.moved {ty : FieldType} {u U : State} (hvm : u.vm.Alike U.vm) (h : AOA ty u) : AOA ty U := by
  obtain ⟨comp, c, k, h1, h2, h3, h4, h5⟩ := arrayOverA_spec (show (Cond.arrayOver (.array ty)).holds #[] u none u [] = true from h)
  obtain ⟨k', hk', he⟩ := hvm.2.2 _ _ h3
  have hi : (U.vm.classes.findIdx? fun (x : Class) => match x.kind with | .array component _ => component == comp | _ => false) = some c := by
    refine (va_idx_bare U.vm comp).symm.trans ?_
    first | rw [hvm.bare_eq] | rw [← hvm.bare_eq]
    exact (va_idx_bare u.vm comp).trans h2
  have hkind : k'.kind = .array comp (.array ty) := by rw [he]; exact h4
  have f1 : U.vm.findClass (FieldType.array ty).toString = some comp := by rw [hvm.findClass]; exact h1
  have f2 : U.vm.findClass ("[" ++ (FieldType.array ty).toString) = some c := by rw [hvm.findClass]; exact h5
  unfold AOA Cond.before Cond.holds
  simp only [Cond.value]
  rw [f1, Option.bind_some]
  refine (congrArg (fun o : Option Nat => (o.bind (fun c => (U.vm.classes[c]?).map fun (k : Class) => match k.kind with | .array _ t0 => decide (t0 = FieldType.array ty) && decide (U.vm.findClass ("[" ++ (FieldType.array ty).toString) = some c) | _ => false) == some true)) hi).trans ?_
  simp [hk', hkind, f2]
def Kb (s : State) : Prop := va_AO "NameRolls$Person" s ∧ AOA .int s ∧ AOA .byte s ∧ AOA .short s
theorem Kb.moved {u U : State} (hvm : u.vm.Alike U.vm) (h : Kb u) : Kb U := ⟨h.1.moved hvm, h.2.1.moved hvm, h.2.2.1.moved hvm, h.2.2.2.moved hvm⟩
theorem vaP_mem {D : va_G} {cl : List vw_C} {ws : va_W} {H : Heap} : va_P D cl ws H ↔ ∀ x ∈ ws, va_at D cl x H :=
  ⟨fun h x hx => by obtain ⟨k, hk⟩ := List.getElem?_of_mem hx; exact h k x hk, fun h k q hk => h q (List.mem_of_getElem? hk)⟩
def QcB (A : Nat → Prop) (F : Heap → Prop) : Array Value → State → Outcome → State → Prop := fun _ st o t => (o = .returned none ∧ F t.heap) ∧ va_F A st t
def bR (d K S : Nat) : Room := { frames := d, cells := K, slots := S, locals := 48 * d }
def BWg (l : Launch) (w : Wo) (M : MI) (d mc ms : Nat) (A : Nat → Prop) (Qc : Array Value → State → Outcome → State → Prop) (n0 kc ks pc : Nat) (ws : va_W) (ls : List (Option PV)) (st : List PV) : Prop :=
  ∀ (p : Program) (e : Env) (s : State) (m : MethodId) (args : Array Value) (below : List Frame) (meth : Method) (c : Code) (H : Heap) (locs : List Loc) (lsr : Array Slot),
    Cx w M p s m args meth c → Kb s → s.heap.size = w.2.2.2 + n0 → H.size = w.2.2.2 + n0 + kc → (∀ q, s.heap.size ≤ q → A q) → va_P w.2.1 classes ws H → va_D A ws → va_S A s.heap H locs → Lr w ls lsr M.2.2.1 →
    W p l e (bR d mc ms) s m args below meth c H locs kc ks (MQ below Qc args s mc ms A) (F0 m pc lsr (st.map (rvv w)))
theorem w_sz {p : Program} {l : Launch} {e : Env} {R : Room} {s : State} {m : MethodId} {args : Array Value} {below : List Frame} {meth : Method} {c : Code} {H : Heap} {locs : List Loc} {cells slots : Nat} {Q : State → Prop} {g : JFrame} (k : H.size ≤ s.heap.size + cells → W p l e R s m args below meth c H locs cells slots Q g) : W p l e R s m args below meth c H locs cells slots Q g :=
  fun T hT X => k (by rw [← hT]; exact X.heapSize) T hT X
theorem va_S.via {A : Nat → Prop} {H0 H H1 : Heap} {l0 l1 : List Loc} (h : va_S A H0 H l0) (h1 : va_S A H H1 l1) : va_S A H0 H1 l1 :=
  ⟨Nat.le_trans h.1 h1.1, fun q a b => (h1.2.1 q (Nat.lt_of_lt_of_le a h.1) b).trans (h.2.1 q a b), h1.2.2⟩
theorem va_S.now {A : Nat → Prop} {H0 H : Heap} {l0 : List Loc} (h : va_S A H0 H l0) : va_S A H H l0 := ⟨Nat.le_refl _, fun _ _ _ => rfl, h.2.2⟩
def rty : FieldType → Bool
  | .array _ => true
  | .object _ => true
  | _ => false
theorem rty_ok {t : FieldType} {q : Nat} (h : rty t = true) : narrow t (.ref q) = .ref q ∧ fits t (.ref q) = true := by
  cases t <;> first | exact ⟨rfl, rfl⟩ | exact absurd h (by decide)
theorem int_ok {q : Int32} : narrow FieldType.int (.int q) = .int q ∧ fits FieldType.int (.int q) = true := ⟨rfl, rfl⟩
def zsC (c : Nat) : List Value := (List.range (shp c).2.1).map fun k => defaultValue (tyC c k)
/-- the fields of an object under way: those in done as they will be, the others as at first -/
def fD (w : Wo) (G : PH) (ci : Nat) (done : List Nat) (k : Nat) : Value := if k ∈ done then rvv w (fval G ci 0 k) else defaultValue (tyC ci k)
def oD (w : Wo) (G : PH) (ci N : Nat) (done : List Nat) : Nat × va_E := (w.1.1 ci 0, .inr (ci, (List.range N).map (fD w G ci done)))
theorem fD_0 (w : Wo) (G : PH) (ci : Nat) {N : Nat} (h : (shp ci).2.1 = N) : oD w G ci N [] = (w.1.1 ci 0, .inr (ci, zsC ci)) := by
  subst h
  rfl
theorem fD_put {w : Wo} {G : PH} {ci k0 N : Nat} {done : List Nat} {v : PV} (hf : fval G ci 0 k0 = v) : ((List.range N).map (fD w G ci done)).set k0 (rvv w v) = (List.range N).map (fD w G ci (k0 :: done)) := by
  refine mk_set ?_ fun j hj => ?_
  · unfold fD; rw [if_pos List.mem_cons_self, hf]
  · unfold fD
    by_cases h : j ∈ done
    · rw [if_pos (List.mem_cons_of_mem _ h), if_pos h]
    · rw [if_neg (fun q => by rcases List.mem_cons.mp q with q | q; exact hj q; exact h q), if_neg h]
theorem fD_all {w : Wo} {G : PH} {ci N : Nat} {done : List Nat} (hs : shp ci = (0, N, ci)) (h : ∀ k, k < N → k ∉ done → rvv w (fval G ci 0 k) = defaultValue (tyC ci k)) : oD w G ci N done = eA w G (ci, 0) := by
  show (w.1.1 ci 0, _) = (w.1.1 ci 0, ent w G ci 0)
  rw [ent_o hs]
  refine congrArg (fun z => (w.1.1 ci 0, Sum.inr (ci, z))) (List.map_congr_left fun k hk => ?_)
  have hk := List.mem_range.mp hk
  unfold fD
  by_cases hd : k ∈ done
  · rw [if_pos hd]
  · rw [if_neg hd, h k hk hd]
section BLD
variable {l : Launch} {w : Wo} {M : MI} {d mc ms : Nat} {A : Nat → Prop} {Qc : Array Value → State → Outcome → State → Prop} {n0 kc ks kc' ks' pc pc' : Nat} {ws : va_W} {ls : List (Option PV)} {st : List PV} {G : PH}
theorem b_const {n : Int} (hd : RC M pc n pc') (K0 : BWg l w M d mc ms A Qc n0 kc ks pc' ws ls (vI n :: st)) : BWg l w M d mc ms A Qc n0 kc ks pc ws ls st := by
  intro p e s m args below meth c H locs lsr hC hB hs hn hA hP hD hS hL
  obtain ⟨-, hd⟩ := hd
  have h := K0 p e s m args below meth c H locs lsr hC hB hs hn hA hP hD hS hL
  rcases hd with ⟨hd, rfl⟩ | ⟨hd, hv, rfl⟩ | ⟨hd, hv, rfl⟩ | ⟨idx, hd, hw, rfl⟩ | ⟨idx, hd, hw, rfl⟩
  · exact lv_iconst (v := Int32.ofInt n) hC.1 hC.2.1 hd rfl h
  · exact lv_bipush hC.1 hC.2.1 hd hv h
  · exact lv_sipush hC.1 hC.2.1 hd hv h
  · exact lv_ldc hC.1 hC.2.1 hC.2.2.2.2.1 (hC.2.2.2.2.2.1 _ hw) hd h
  · exact lv_ldcw hC.1 hC.2.1 hC.2.2.2.2.1 (hC.2.2.2.2.2.1 _ hw) hd h
theorem b_aload {i : Nat} {cc : Nat} {r : Int} (hd : RA M pc i pc') (hl : ls[i]? = some (some (vR cc r))) (K0 : BWg l w M d mc ms A Qc n0 kc ks pc' ws ls (vR cc r :: st)) : BWg l w M d mc ms A Qc n0 kc ks pc ws ls st := by
  intro p e s m args below meth c H locs lsr hC hB hs hn hA hP hD hS hL
  have h := K0 p e s m args below meth c H locs lsr hC hB hs hn hA hP hD hS hL
  have hv := hL.2.2 _ _ hl
  rcases hd with ⟨k', hd, hk, rfl⟩ | ⟨hd, rfl⟩
  · exact lv_aload_n hC.1 hC.2.1 hd hk hv h
  · exact lv_aload hC.1 hC.2.1 hd hv h
theorem b_dup {cc : Nat} {r : Int} (hd : RW M pc .dup pc' 1) (K0 : BWg l w M d mc ms A Qc n0 kc ks pc' ws ls (vR cc r :: vR cc r :: st)) : BWg l w M d mc ms A Qc n0 kc ks pc ws ls (vR cc r :: st) := by
  obtain ⟨hd, rfl⟩ := hd
  intro p e s m args below meth c H locs lsr hC hB hs hn hA hP hD hS hL
  exact lv_dup hC.1 hC.2.1 hd rfl (K0 p e s m args below meth c H locs lsr hC hB hs hn hA hP hD hS hL)
theorem b_objInit {cc : Nat} {r : Int} (hd : ROI M pc pc') (h1 : 1 ≤ d) (hst : st = []) (K0 : BWg l w M d mc ms A Qc n0 kc ks pc' ws ls st) : BWg l w M d mc ms A Qc n0 kc ks pc ws ls (vR cc r :: st) := by
  subst hst
  obtain ⟨idx, hd, hlk, hins, hcode, rfl⟩ := hd
  intro p e s m args below meth c H locs lsr hC hB hs hn hA hP hD hS hL
  have hts := hC.2.2.2.2.2.1
  exact W.objInit hC.1 hC.2.1 hC.2.2.2.2.1 (hts _ hlk) (hts _ hins) (hts _ hcode) rfl (by rw [hC.2.2.2.1]; exact hL.1) rfl hd h1 (by show 2 * 0 + 0 + 12 ≤ 48 * d; omega) (K0 p e s m args below meth c H locs lsr hC hB hs hn hA hP hD hS hL)
theorem b_ret {F : Heap → Prop} (hd : RW M pc .return_ pc' 1) (hr : M.2.2.2 = none) (hc : kc = mc) (hs' : ks = ms) (hF : ∀ H : Heap, H.size = w.2.2.2 + n0 + kc → va_P w.2.1 classes ws H → F H) : BWg l w M d mc ms A (QcB A F) n0 kc ks pc ws ls [] := by
  obtain ⟨hd, -⟩ := hd
  subst hc
  subst hs'
  intro p e s m args below meth c H locs lsr hC hB hs hn hA hP hD hS hL
  have hlocks : meth.locks = false := hC.2.2.2.2.2.2.1
  exact W.vret hC.1 hC.2.1 (hC.2.2.1.trans hr) (fun t ht hW => ⟨⟨rfl, by rw [ht]; exact hF H hn hP⟩, hS.F ht⟩) hS.2.2 hd
theorem b_put {ci k0 q0 : Nat} {v : PV} {fs : List Value} (hd : RP M pc ci k0 pc') (hnf : narrow (tyC ci k0) (rvv w v) = rvv w v ∧ fits (tyC ci k0) (rvv w v) = true) (he : ws[q0]? = some (w.1.1 ci 0, .inr (ci, fs))) (hl : k0 < fs.length)
    (K0 : BWg l w M d mc ms A Qc n0 kc ks pc' (ws.set q0 (w.1.1 ci 0, .inr (ci, fs.set k0 (rvv w v)))) ls st) : BWg l w M d mc ms A Qc n0 kc ks pc ws ls (v :: vR ci 0 :: st) := by
  obtain ⟨idx, q, hd, hc, hk, hlk, hdecl, hfin, rfl⟩ := hd
  intro p e s m args below meth c H locs lsr hC hB hs hn hA hP hD hS hL
  have h := fun (H1 : Heap) (locs1 : List Loc) (hP1 : va_P w.2.1 classes (ws.set q0 (w.1.1 ci 0, .inr (ci, fs.set k0 (rvv w v)))) H1) (hD1 : va_D A (ws.set q0 (w.1.1 ci 0, .inr (ci, fs.set k0 (rvv w v))))) (hS1 : va_S A H H1 locs1) =>
    w_sz (l := l) (e := e) (R := bR d mc ms) (below := below) (locs := locs1) (slots := ks) (Q := MQ below Qc args s mc ms A) (fun hz => K0 p e s m args below meth c H1 locs1 lsr hC hB hs (by have := hS1.1; omega) hA hP1 hD1 (hS.via hS1) hL)
  obtain ⟨C, T, N⟩ := q
  obtain ⟨o1, o2, o3⟩ := cls_ok ci _ hc
  rcases hfin with hfin | ⟨hin, hown, hfin⟩
  · exact va_put (D := w.2.1) (ci := ci) hC.1 hC.2.1 hC.2.2.2.2.2.1 o1 (tyC ci) o2 o3 hC.2.2.2.2.1 hC.2.2.2.2.2.2.2.2.1.1 hP hD hS.now q0 he hc k0 hk (hC.2.2.2.2.2.1 _ hlk) (fun _ h9 => hdecl ▸ h9) hfin (o2 k0 hk) hnf.1 hnf.2 hl hd h
  · exact va_putF (D := w.2.1) (ci := ci) hC.1 hC.2.1 hC.2.2.2.2.2.1 o1 (tyC ci) o2 o3 hC.2.2.2.2.1 hC.2.2.2.2.2.2.2.2.1.1 hP hD hS.now q0 he hc k0 hk (hC.2.2.2.2.2.1 _ hlk) (fun _ h9 => hdecl ▸ h9) hfin (by rw [hC.2.2.2.2.2.2.2.1]; exact hin) (hdecl.trans hown) (o2 k0 hk) hnf.1 hnf.2 hl hd h
theorem b_get {ci k0 q0 : Nat} {v : PV} {fs : List Value} (hd : RG M pc ci k0 pc') (he : ws[q0]? = some (w.1.1 ci 0, .inr (ci, fs))) (hl : fs[k0]? = some (rvv w v)) (K0 : BWg l w M d mc ms A Qc n0 kc ks pc' ws ls (v :: st)) : BWg l w M d mc ms A Qc n0 kc ks pc ws ls (vR ci 0 :: st) := by
  obtain ⟨idx, q, hd, hc, hk, hlk, hdecl, rfl⟩ := hd
  intro p e s m args below meth c H locs lsr hC hB hs hn hA hP hD hS hL
  have h := K0 p e s m args below meth c H locs lsr hC hB hs hn hA hP hD hS hL
  obtain ⟨C, T, N⟩ := q
  exact va_get (D := w.2.1) (ci := ci) hC.1 hC.2.1 hC.2.2.2.2.2.1 (cls_ok ci _ hc).1 hC.2.2.2.2.1 hC.2.2.2.2.2.2.2.2.1.1 hP q0 he hc k0 hk (hC.2.2.2.2.2.1 _ hlk) (fun _ h9 => hdecl ▸ h9) hl hd h
/-- what a new cell does to the world -/
theorem wd_push {H H1 : Heap} {s0 : Heap} {locs : List Loc} {a : Nat} {x : va_E} (hP : va_P w.2.1 classes ws H) (hD : va_D A ws) (hS : va_S A s0 H locs) (hA : ∀ q, s0.size ≤ q → A q) (ha : a = H.size) (hz : H.size ≤ H1.size) (ho : ∀ q : Nat, q < H.size → H1[q]? = H[q]?) (hx : va_at w.2.1 classes (a, x) H1) :
    va_P w.2.1 classes (ws ++ [(a, x)]) H1 ∧ va_D A (ws ++ [(a, x)]) ∧ va_S A s0 H1 locs := by
  refine ⟨(hP.kept fun k q hq => ho q.1 ((hP k q hq).lt)).app (fun k q hq => ?_), hD.push hP ha (hA _ (by rw [ha]; exact hS.1)), Nat.le_trans hS.1 hz, fun q h1 h2 => (ho q (Nat.lt_of_lt_of_le h1 hS.1)).trans (hS.2.1 q h1 h2), hS.2.2⟩
  have h0 : k < 1 := (List.getElem?_eq_some_iff.mp hq).1
  rw [show k = 0 by omega] at hq
  cases hq
  exact hx
def RNA (M : MI) (pc t pc' : Nat) : Prop := ∃ ay, decode M.2.1 pc = .ok (.newarray ay, 2) ∧ newarray.typeOf ay = aty t ∧ pc + 2 = pc'
theorem aty_def : ∀ t, t < 4 → defaultValue (aty t) = .int 0 := by
  intro t ht
  rcases (show t = 0 ∨ t = 1 ∨ t = 2 ∨ t = 3 by omega) with rfl | rfl | rfl | rfl <;> rfl
theorem aty_bytes : ∀ t, t < 4 → componentBytes (aty t) ≤ 4 := by
  intro t ht
  rcases (show t = 0 ∨ t = 1 ∨ t = 2 ∨ t = 3 by omega) with rfl | rfl | rfl | rfl <;> decide
theorem ra_prim {s : State} {cA : ClassId} : ∀ t, t < 7 → va_RA s cA (aty t) → s.vm.findClass ("[" ++ (aty t).toString) = some cA := by
  intro t ht h
  rcases (show t = 0 ∨ t = 1 ∨ t = 2 ∨ t = 3 ∨ t = 4 ∨ t = 5 ∨ t = 6 by omega) with rfl | rfl | rfl | rfl | rfl | rfl | rfl <;> exact h
theorem b_newarr {ck len t : Nat} (hd : RNA M pc t pc') (hsh : shp ck = (1, len, t)) (ht : t < 4) (hlen : len ≤ 20000) (hz : ∀ i, gA G ck 0 i = 0) (ha : w.1.1 ck 0 = w.2.2.2 + n0 + kc) (hR : kc + 1 ≤ mc ∧ ks + len ≤ ms) (hkc : kc + 1 = kc') (hks : ks + len = ks')
    (K0 : BWg l w M d mc ms A Qc n0 kc' ks' pc' (ws ++ [eA w G (ck, 0)]) ls (vR ck 0 :: st)) : BWg l w M d mc ms A Qc n0 kc ks pc ws ls (vI (len : Nat) :: st) := by
  subst hkc
  subst hks
  obtain ⟨ay, hd, hty, rfl⟩ := hd
  intro p e s m args below meth c H locs lsr hC hB hs hn hA hP hD hS hL
  have hts := hC.2.2.2.2.2.1
  have harr : (Cond.arrayClass (newarray.typeOf ay)).before args s = true := by rw [hty]; exact hts _ (arrw t ht)
  obtain ⟨g1, g2⟩ := of_in (i := (len : Int)) (n := len + 1) (by omega) (by omega) (by omega)
  have hnn : ¬ Int32.ofInt (len : Int) < 0 := fun q => g1 (Or.inl q)
  have hb := aty_bytes t ht
  refine va_newaK (H := H) hC.1 hC.2.1 harr (g := F0 m pc lsr (.int (Int32.ofInt (len : Int)) :: st.map (rvv w))) rfl hd rfl hnn (g2.trans (by omega)) (by rw [hty]; exact Nat.le_trans (Nat.mul_le_mul hlen hb) (Nat.le_of_ble_eq_true rfl)) hR.1 hR.2 (h := H.size) rfl fun H1 cA e1 z1 o1 hAr hNm => ?_
  have hcA : cA = w.2.2.1 t := by
    have h1 := ra_prim t (by omega) (hC.2.2.2.2.2.2.2.2.1.1.2 t _ (tys_at (by omega))).2
    rw [hty] at hNm
    exact Option.some.inj (hNm.symm.trans h1)
  have hx : va_at w.2.1 classes (eA w G (ck, 0)) H1 := by
    show va_at w.2.1 classes (w.1.1 ck 0, ent w G ck 0) H1
    rw [ent_i hsh ht]
    show H1[w.1.1 ck 0]? = some (vp_cell (w.2.2.1 t) (len, .inl fun i => Int32.ofInt (gA G ck 0 i)))
    rw [ha, ← hn, e1, hcA, vp_cell_i, hty, aty_def t ht]
    refine congrArg (fun f => some (arrV _ _ f)) (funext fun j => ?_)
    rw [hz]
    rfl
  obtain ⟨q1, q2, q3⟩ := wd_push (a := w.1.1 ck 0) hP hD hS hA (ha.trans hn.symm) (by omega) o1 hx
  have h := K0 p e s m args below meth c H1 locs lsr hC hB hs (by omega) hA q1 q2 q3 hL
  have e2 : (vR ck 0 :: st).map (rvv w) = .ref H.size :: st.map (rvv w) := by
    show Value.ref (w.1.1 ck 0) :: _ = _
    rw [ha, hn]
  rw [e2] at h
  exact h
theorem b_new {c2 N : Nat} {q : vw_C} (hd : ∃ idx, decode M.2.1 pc = .ok (.new idx, 3) ∧ Cond.classLink M.1.cls idx q.1 ∈ UW ∧ Cond.instantiable q.1 q.2.2 ∈ UW ∧ Cond.initialized q.1 ∈ UW ∧ pc + 3 = pc') (hc : classes[c2]? = some q) (hN : q.2.2 = N) (ha : w.1.1 c2 0 = w.2.2.2 + n0 + kc) (hR : kc + 1 ≤ mc ∧ ks + N ≤ ms) (hkc : kc + 1 = kc') (hks : ks + N = ks')
    (K0 : BWg l w M d mc ms A Qc n0 kc' ks' pc' (ws ++ [(w.1.1 c2 0, .inr (c2, zsC c2))]) ls (vR c2 0 :: st)) : BWg l w M d mc ms A Qc n0 kc ks pc ws ls st := by
  subst hN
  subst hkc
  subst hks
  obtain ⟨idx, hd, hcl, hins, hini, rfl⟩ := hd
  intro p e s m args below meth c H locs lsr hC hB hs hn hA hP hD hS hL
  have hts := hC.2.2.2.2.2.1
  obtain ⟨o1, o2, o3⟩ := cls_ok c2 _ hc
  obtain ⟨-, -, hsh⟩ := cls_sh c2 q hc
  have hKn := hC.2.2.2.2.2.2.2.2.1.1.1 c2 _ hc
  refine W.newcK (H := H) hC.1 hC.2.1 hC.2.2.2.2.1 (hts _ hcl) (hts _ hins) (hts _ hini) (g := F0 m pc lsr (st.map (rvv w))) rfl hd hR.1 hR.2 hKn.2.1 (h := H.size) rfl fun H1 kC hkC e1 z1 ho => ?_
  have hx : va_at w.2.1 classes (w.1.1 c2 0, .inr (c2, zsC c2)) H1 := by
    refine ⟨q, hc, ?_⟩
    show t_OB (w.1.1 c2 0) _ _ _ H1 _
    rw [ha, ← hn]
    refine (u_born (tyC c2) hts o1 hKn hkC e1 o2).to fun j hj => ?_
    unfold zsC vp_V
    rw [hsh]
    show defaultValue (tyC c2 j) = ((List.range q.2.2).map fun k => defaultValue (tyC c2 k)).getD j .null
    rw [List.getD_eq_getElem?_getD, List.getElem?_map, List.getElem?_range hj]
    rfl
  obtain ⟨q1, q2, q3⟩ := wd_push (a := w.1.1 c2 0) hP hD hS hA (ha.trans hn.symm) (by omega) ho hx
  have h := K0 p e s m args below meth c H1 locs lsr hC hB hs (by omega) hA q1 q2 q3 hL
  have e2 : (vR c2 0 :: st).map (rvv w) = .ref H.size :: st.map (rvv w) := by
    show Value.ref (w.1.1 c2 0) :: _ = _
    rw [ha, hn]
  rw [e2] at h
  exact h
end BLD
theorem arrV_cong {cA : ClassId} {N : Nat} {f g : Nat → Value} (h : ∀ j, j < N → f j = g j) : arrV cA N f = arrV cA N g := by
  unfold arrV
  have e : (fun j : Fin N => f j.val) = fun j : Fin N => g j.val := funext fun j => h j.val j.isLt
  rw [e]
theorem vaD_app {A : Nat → Prop} {a b : va_W} (ha : va_D A a) (hb : va_D A b) (h : ∀ x ∈ a, ∀ y ∈ b, x.1 ≠ y.1) : va_D A (a ++ b) := by
  have key : ∀ (k : Nat) (x : Nat × va_E), (a ++ b)[k]? = some x → (k < a.length ∧ a[k]? = some x) ∨ (a.length ≤ k ∧ b[k - a.length]? = some x) := fun k x hk => by
    by_cases hl : k < a.length
    · rw [List.getElem?_append_left hl] at hk; exact Or.inl ⟨hl, hk⟩
    · rw [List.getElem?_append_right (by omega)] at hk; exact Or.inr ⟨by omega, hk⟩
  refine ⟨fun i j x y hi hj hxy => ?_, fun k q hk => ?_⟩
  · rcases key i x hi with ⟨i1, i2⟩ | ⟨i1, i2⟩ <;> rcases key j y hj with ⟨j1, j2⟩ | ⟨j1, j2⟩
    · exact ha.1 i j x y i2 j2 hxy
    · exact absurd hxy (h x (List.mem_of_getElem? i2) y (List.mem_of_getElem? j2))
    · exact absurd hxy.symm (h y (List.mem_of_getElem? j2) x (List.mem_of_getElem? i2))
    · have := hb.1 _ _ x y i2 j2 hxy
      omega
  · rcases key k q hk with ⟨i1, i2⟩ | ⟨i1, i2⟩
    · exact ha.2 _ _ i2
    · exact hb.2 _ _ i2
theorem vaD_seq {A : Nat → Prop} {X : va_W} {a0 : Nat} (h : ∀ (k : Nat) (x : Nat × va_E), X[k]? = some x → x.1 = a0 + k) (hA : ∀ q, a0 ≤ q → A q) : va_D A X :=
  ⟨fun i j x y hi hj hxy => by have h1 := h i x hi; have h2 := h j y hj; omega, fun k q hk => hA _ (by have := h k q hk; omega)⟩
theorem vaD_same {A : Nat → Prop} {a : va_W} {q : Nat} {x y : va_E} (h : va_D A (a ++ [(q, x)])) : va_D A (a ++ [(q, y)]) := by
  have key : ∀ (k : Nat) (z : Nat × va_E), (a ++ [(q, y)])[k]? = some z → ∃ z', (a ++ [(q, x)])[k]? = some z' ∧ z'.1 = z.1 := fun k z hk => by
    by_cases hl : k < a.length
    · rw [List.getElem?_append_left hl] at hk
      exact ⟨z, by rw [List.getElem?_append_left hl]; exact hk, rfl⟩
    · rw [List.getElem?_append_right (by omega)] at hk
      have h0 : k - a.length < 1 := (List.getElem?_eq_some_iff.mp hk).1
      rw [show k - a.length = 0 by omega] at hk
      cases hk
      exact ⟨(q, x), by rw [List.getElem?_append_right (by omega), show k - a.length = 0 by omega]; rfl, rfl⟩
  refine ⟨fun i j p r hi hj hpr => ?_, fun k p hk => ?_⟩
  · obtain ⟨p', h1, e1⟩ := key i p hi
    obtain ⟨r', h2, e2⟩ := key j r hj
    exact h.1 i j p' r' h1 h2 (by rw [e1, e2, hpr])
  · obtain ⟨p', h1, e1⟩ := key k p hk
    rw [← e1]
    exact h.2 k p' h1
def seqOk : Nat → List PR → Bool
  | _, [] => true
  | n, p :: l => decide (p.1 < 190 ∨ 194 ≤ p.1) && (offn p.1 p.2 == n && seqOk (n + 1) l)
theorem seq_at {w : Wo} {G : PH} (hw : AlOk w) : ∀ (L : List PR) (n : Nat), seqOk n L = true → ∀ (k : Nat) (x : Nat × va_E), (L.map (eA w G))[k]? = some x → x.1 = w.2.2.2 + n + k
  | [], _, _, k, x, hk => by simp at hk
  | p :: l, n, h, k, x, hk => by
    unfold seqOk at h
    simp only [Bool.and_eq_true, decide_eq_true_eq, beq_iff_eq] at h
    cases k with
    | zero =>
      cases hk
      show w.1.1 p.1 p.2 = _
      rw [hw _ _ h.1, h.2.1]
      rfl
    | succ k =>
      have := seq_at hw l (n + 1) h.2.2 k x hk
      omega
section BL2
variable {l : Launch} {w : Wo} {M : MI} {d mc ms : Nat} {A : Nat → Prop} {Qc : Array Value → State → Outcome → State → Prop} {n0 kc ks kc' ks' pc pc' : Nat} {ws : va_W} {ls : List (Option PV)} {st : List PV} {G : PH}
theorem wd_app {H H1 : Heap} {s0 : Heap} {locs : List Loc} {X : va_W} (hP : va_P w.2.1 classes ws H) (hD : va_D A ws) (hS : va_S A s0 H locs) (hA : ∀ q, s0.size ≤ q → A q) (hseq : ∀ (k : Nat) (x : Nat × va_E), X[k]? = some x → x.1 = H.size + k) (hz : H.size ≤ H1.size) (ho : ∀ q : Nat, q < H.size → H1[q]? = H[q]?) (hx : va_P w.2.1 classes X H1) :
    va_P w.2.1 classes (ws ++ X) H1 ∧ va_D A (ws ++ X) ∧ va_S A s0 H1 locs := by
  refine ⟨(hP.kept fun k q hq => ho q.1 ((hP k q hq).lt)).app hx, vaD_app hD (vaD_seq hseq fun q hq => hA q (Nat.le_trans hS.1 hq)) (fun x hx y hy => ?_), Nat.le_trans hS.1 hz, fun q h1 h2 => (ho q (Nat.lt_of_lt_of_le h1 hS.1)).trans (hS.2.1 q h1 h2), hS.2.2⟩
  obtain ⟨i, hi⟩ := List.getElem?_of_mem hx
  obtain ⟨j, hj⟩ := List.getElem?_of_mem hy
  have h1 := (hP i x hi).lt
  have h2 := hseq j y hj
  omega
theorem b_anew {ck len : Nat} (hd : ∃ idx, decode M.2.1 pc = .ok (.anewarray idx, 3) ∧ Cond.classLink M.1.cls idx "NameRolls$Person" ∈ UW ∧ pc + 3 = pc') (hsh : shp ck = (1, len, 7)) (hlen : len ≤ 20000) (hz : ∀ i, aref G ck 0 i = none) (ha : w.1.1 ck 0 = w.2.2.2 + n0 + kc) (hR : kc + 1 ≤ mc ∧ ks + len ≤ ms) (hkc : kc + 1 = kc') (hks : ks + len = ks')
    (K0 : BWg l w M d mc ms A Qc n0 kc' ks' pc' (ws ++ [eA w G (ck, 0)]) ls (vR ck 0 :: st)) : BWg l w M d mc ms A Qc n0 kc ks pc ws ls (vI (len : Nat) :: st) := by
  subst hkc
  subst hks
  obtain ⟨idx, hd, hcl, rfl⟩ := hd
  intro p e s m args below meth c H locs lsr hC hB hs hn hA hP hD hS hL
  have hts := hC.2.2.2.2.2.1
  obtain ⟨g1, g2⟩ := of_in (i := (len : Int)) (n := len + 1) (by omega) (by omega) (by omega)
  have g3 : (Int32.ofInt (len : Int)).toNatClampNeg = len := g2.trans (by omega)
  refine W.anew (H := H) hC.1 hC.2.1 hC.2.2.2.2.1 (hts _ hcl) (va_AO.use hB.1) (g := F0 m pc lsr (.int (Int32.ofInt (len : Int)) :: st.map (rvv w))) rfl hd rfl (fun q => g1 (Or.inl q)) (by rw [g3]; omega) hR.1 (by rw [g3]; exact hR.2) fun cA kA comp h1 h2 h3 h4 => ?_
  rw [g3]
  have hcA : cA = w.2.2.1 7 := by
    obtain ⟨kA', comp', -, -, -, h5⟩ := (show va_RA s (w.2.2.1 7) (.object "NameRolls$Person") from (hC.2.2.2.2.2.2.2.2.1.1.2 7 _ (tys_at (by omega))).2)
    exact Option.some.inj (h1.symm.trans h5)
  generalize hH1 : H.push ({ cls := cA, slots := Array.replicate len .null, vm := .none } : Cell) = H1
  have z1 : H1.size = H.size + 1 := by rw [← hH1, Array.size_push]
  have e1 : H1[H.size]? = some (arrV cA len (fun _ => .null)) := by rw [← hH1, Array.getElem?_push_size, ← arrV_new]
  have o1 : ∀ q : Nat, q < H.size → H1[q]? = H[q]? := fun q hq => by rw [← hH1, Array.getElem?_push, if_neg (Nat.ne_of_lt hq)]
  have hx : va_at w.2.1 classes (eA w G (ck, 0)) H1 := by
    show va_at w.2.1 classes (w.1.1 ck 0, ent w G ck 0) H1
    rw [ent_q hsh (by decide)]
    show H1[w.1.1 ck 0]? = some (vp_cell (w.2.2.1 7) (len, .inr (.inr (.inr (.inr fun i => (aref G ck 0 i).map fun q => w.1.1 q.1 q.2)))))
    rw [ha, ← hn, e1, hcA, vp_cell_q]
    refine congrArg (fun f => some (arrV _ _ f)) (funext fun j => ?_)
    rw [hz]
    rfl
  obtain ⟨q1, q2, q3⟩ := wd_push (a := w.1.1 ck 0) hP hD hS hA (ha.trans hn.symm) (by omega) o1 hx
  have h := K0 p e s m args below meth c H1 locs lsr hC hB hs (by omega) hA q1 q2 q3 hL
  have e2 : (vR ck 0 :: st).map (rvv w) = .ref H.size :: st.map (rvv w) := by
    show Value.ref (w.1.1 ck 0) :: _ = _
    rw [ha, hn]
  rw [e2] at h
  exact h
def rowsL (rk N : Nat) : List PR := (List.range N).map fun i : Nat => ((rk, (i : Int)) : PR)
theorem b_multi {ck rk N K t t' : Nat} (hd : ∃ idx, decode M.2.1 pc = .ok (.multianewarray idx 2, 4) ∧ Cond.classLink M.1.cls idx ("[" ++ (FieldType.array (aty t)).toString) ∈ UW ∧ pc + 4 = pc') (hsh : shp ck = (1, N, t')) (hsr : shp rk = (1, K, t)) (ht : t < 4) (ht2 : t ≠ 2) (ht' : 4 ≤ t' ∧ t' < 7) (htt : aty t' = .array (aty t)) (hN : N ≤ 200) (hK : K ≤ 200) (hsa : aSt ck = some rk) (hz : ∀ r i, gA G rk r i = 0)
    (ha : w.1.1 ck 0 = w.2.2.2 + n0 + kc) (hr : ∀ i : Nat, i < N → w.1.1 rk i = w.2.2.2 + n0 + kc + 1 + i) (hR : kc + (1 + N) ≤ mc ∧ ks + (N + N * K) ≤ ms) (hkc : kc + 1 + N = kc') (hks : ks + N + N * K = ks')
    (K0 : BWg l w M d mc ms A Qc n0 kc' ks' pc' (ws ++ ((ck, 0) :: rowsL rk N).map (eA w G)) ls (vR ck 0 :: st)) : BWg l w M d mc ms A Qc n0 kc ks pc ws ls (vI (K : Nat) :: vI (N : Nat) :: st) := by
  subst hkc
  subst hks
  obtain ⟨idx, hd, hcl, rfl⟩ := hd
  intro p e s m args below meth c H locs lsr hC hB hs hn hA hP hD hS hL
  have hts := hC.2.2.2.2.2.1
  obtain ⟨g1, g2⟩ := of_in (i := (N : Int)) (n := N + 1) (by omega) (by omega) (by omega)
  obtain ⟨k1, k2⟩ := of_in (i := (K : Int)) (n := K + 1) (by omega) (by omega) (by omega)
  have htyk := hC.2.2.2.2.2.2.2.2.1.1.2
  have r1 := ra_prim t (by omega) (htyk t _ (tys_at (by omega))).2
  have r2 := ra_prim t' (by omega) (htyk t' _ (tys_at (by omega))).2
  rw [htt] at r2
  have hover : AOA (aty t) s := by
    rcases (show t = 0 ∨ t = 1 ∨ t = 3 by omega) with rfl | rfl | rfl
    · exact hB.2.1
    · exact hB.2.2.1
    · exact hB.2.2.2
  have hb := aty_bytes t ht
  have hdf := aty_def t ht
  refine w_multi (H := H) (ty := aty t) (cy := w.2.2.1 t) (N' := N) (K' := K) (z := (K, .inl fun _ => 0)) hC.1 hC.2.1 hC.2.2.2.2.1 (hts _ hcl) hover (hts _ (arrw t ht)) r1 (fun q => g1 (Or.inl q)) (fun q => k1 (Or.inl q)) (g2.trans (by omega)) (k2.trans (by omega)) (by omega) (Nat.le_trans (Nat.mul_le_mul hK hb) (Nat.le_of_ble_eq_true rfl)) (by omega) (by rcases (show t = 0 ∨ t = 1 ∨ t = 3 by omega) with rfl | rfl | rfl <;> rfl) (by rcases (show t = 0 ∨ t = 1 ∨ t = 3 by omega) with rfl | rfl | rfl <;> rfl) hR.1 hR.2 (fun c0 => by
      rw [hdf, vp_cell_i, ← arrV_new]
      rfl) hd fun cA H1 fA z1 o1 e1 erow => ?_
  have hcA : cA = w.2.2.1 t' := Option.some.inj (fA.symm.trans r2)
  have hx0 : va_at w.2.1 classes (eA w G (ck, 0)) H1 := by
    show va_at w.2.1 classes (w.1.1 ck 0, ent w G ck 0) H1
    rw [ent_q hsh (by omega)]
    show H1[w.1.1 ck 0]? = some (vp_cell (w.2.2.1 t') (N, .inr (.inr (.inr (.inr fun i => (aref G ck 0 i).map fun q => w.1.1 q.1 q.2)))))
    rw [ha, ← hn, e1, hcA, vp_cell_q, vp_cell_q]
    refine congrArg some (arrV_cong fun j hj => ?_)
    rw [if_pos hj]
    unfold aref
    rw [hsa]
    show Value.ref (H.size + 1 + j) = Value.ref (w.1.1 rk j)
    rw [hr j hj, ← hn]
  have hx : va_P w.2.1 classes (((ck, 0) :: rowsL rk N).map (eA w G)) H1 := vaP_mem.mpr fun x hx => by
    obtain ⟨q, hq, rfl⟩ := List.mem_map.mp hx
    rcases List.mem_cons.mp hq with rfl | hq
    · exact hx0
    · obtain ⟨i, hi, rfl⟩ := List.mem_map.mp hq
      have hi := List.mem_range.mp hi
      show va_at w.2.1 classes (w.1.1 rk i, ent w G rk i) H1
      rw [ent_i hsr ht]
      show H1[w.1.1 rk i]? = some (vp_cell (w.2.2.1 t) (K, .inl fun j => Int32.ofInt (gA G rk i j)))
      rw [hr i hi, ← hn, erow i hi]
      refine congrArg (fun f => some (vp_cell (w.2.2.1 t) (K, .inl f))) (funext fun j => ?_)
      rw [hz]
      rfl
  obtain ⟨q1, q2, q3⟩ := wd_app hP hD hS hA (X := ((ck, 0) :: rowsL rk N).map (eA w G)) (fun k x hk => by
    cases k with
    | zero => cases hk; exact ha.trans hn.symm
    | succ k =>
      have hk' : ((rowsL rk N).map (eA w G))[k]? = some x := hk
      unfold rowsL at hk'
      rw [List.map_map, List.getElem?_map] at hk'
      by_cases hkN : k < N
      · rw [List.getElem?_range hkN] at hk'
        cases hk'
        show w.1.1 rk k = _
        rw [hr k hkN]
        omega
      · rw [List.getElem?_eq_none (by rw [List.length_range]; omega)] at hk'
        cases hk') (by omega) o1 hx
  have h := K0 p e s m args below meth c H1 locs lsr hC hB hs (by omega) hA q1 q2 q3 hL
  have e2 : (vR ck 0 :: st).map (rvv w) = .ref H.size :: st.map (rvv w) := by
    show Value.ref (w.1.1 ck 0) :: _ = _
    rw [ha, hn]
  rw [e2] at h
  exact h
def frA (w : Wo) (ci n : Nat) : Nat → Prop := fun q => q = w.1.1 ci 0 ∨ w.2.2.2 + n ≤ q
def PcB (w : Wo) (n0 ci : Nat) (av : List PV) : Array Value → State → Prop := fun v U => v = (av.map (rvv w)).toArray ∧ Kw w U ∧ Kb U ∧ Ro w U U.heap ∧ U.heap.size = w.2.2.2 + n0 ∧ va_at w.2.1 classes (w.1.1 ci 0, .inr (ci, zsC ci)) U.heap
def FcB (w : Wo) (G : PH) (n : Nat) (L : List PR) : Heap → Prop := fun H => H.size = w.2.2.2 + n ∧ va_P w.2.1 classes (L.map (eA w G)) H
theorem PcB_blind (w : Wo) (n0 ci : Nat) (av : List PV) : FrameBlind (PcB w n0 ci av) := by
  intro a U g mk q
  obtain ⟨q1, q2, q3, q4, q5, q6⟩ := q
  exact ⟨q1, Kw.same (s := U) (U := U.calling g mk a) rfl q2, Kb.moved (u := U) (U := U.calling g mk a) (Vm.Alike.refl _) q3, Ro.moved (u := U) (U := U.calling g mk a) (Vm.Alike.refl _) q4, q5, q6⟩
theorem met_ctor {F : Heap → Prop} {ci : Nat} {av : List PV} (hy : plainName M.1.cls = true) (hj : noJ av = true) (hn : av.length ≤ M.2.2.1) (h : BWg l w M d mc ms (frA w ci n0) (QcB (frA w ci n0) F) n0 0 0 0 [(w.1.1 ci 0, .inr (ci, zsC ci))] (inl' M av) []) :
    Met l M.1 (wsM M) (bR d mc ms) (PcB w n0 ci av) (QcB (frA w ci n0) F) mc ms (frA w ci n0) := by
  refine Met.ofW (cc := M.2.1) (maxL := M.2.2.1) (ret := M.2.2.2) hy rfl ?_
  intro p e s m args below meth c s₁ B hml hv
  obtain ⟨rfl, hK, hB, hR, hz, hx⟩ := hv
  have hts := atoms_spec (ws := wsM M) B.pre
  have hown : s.vm.findClass M.1.cls = some m.cls := findClass_of_methodNamed B.named
  have hcat := noJ_cat w av hj
  have hsl := sl_cat1 _ hcat
  rw [lg_entry_eq]
  have hl := lv_entry (av.map (rvv w)) (n := M.2.2.1) (by rw [hsl, List.length_map, List.length_map]; exact hn)
  rw [hsl] at hl ⊢
  refine h p e s m _ below meth c s.heap [] _ ⟨B.exec, B.bytes, B.returns, hml, hown, fun x hx => hts x (List.mem_cons_of_mem _ hx), B.notSynchronized, (name_of_methodNamed B.named B.method).1, hK, by omega, hR⟩ hB hz (by omega) (fun q hq => Or.inr (by omega)) (vaP_mem.mpr fun x hx' => by rw [List.mem_singleton.mp hx']; exact hx) ⟨fun i j p q hi hj _ => ?_, fun k q hk => ?_⟩ va_S.rf ⟨hl.1, hl.2.1, fun i v hi => ?_⟩
  · have h1 : i < 1 := (List.getElem?_eq_some_iff.mp hi).1
    have h2 : j < 1 := (List.getElem?_eq_some_iff.mp hj).1
    omega
  · have h1 : k < 1 := (List.getElem?_eq_some_iff.mp hk).1
    rw [show k = 0 by omega] at hk
    cases hk
    exact Or.inl rfl
  · unfold inl' at hi
    by_cases hlt : i < av.length
    · rw [List.getElem?_append_left (by rw [List.length_map]; exact hlt), List.getElem?_map] at hi
      cases hx : av[i]? with
      | none => rw [hx] at hi; cases hi
      | some x =>
        rw [hx] at hi
        cases hi
        rw [List.getElem?_toArray, List.getElem?_append_left (by rw [List.length_map, List.length_map]; exact hlt), List.getElem?_map, List.getElem?_map, hx]
        rfl
    · rw [List.getElem?_append_right (by rw [List.length_map]; omega)] at hi
      have := (List.mem_replicate.mp (List.mem_of_getElem? hi)).2
      cases this
def RKc (M M' : MI) (pc n ci pc' : Nat) : Prop := ∃ idx, decode M.2.1 pc = .ok (.invokespecial idx, 3) ∧ (Cond.methodLink M.1.cls idx M'.1 ∈ UW ∨ (M.1.cls, idx, M'.1) ∈ nestQ) ∧ mokV M' n ci ∧ M'.1.name = "<init>" ∧ M'.2.2.2 = none ∧ pc + 3 = pc'
theorem b_ctor {M' : MI} {c2 n d' mc' ms' : Nat} {av : List PV} {L2 : List PR} (hd : RKc M M' pc n c2 pc') (hck : ckC (n + 1) (vR c2 0 :: av) st M'.2.2.1 = true) (hM : Met l M'.1 (wsM M') (bR d' mc' ms') (PcB w (n0 + kc) c2 (vR c2 0 :: av)) (QcB (frA w c2 (n0 + kc)) (FcB w G (n0 + kc + mc') ((c2, 0) :: L2))) mc' ms' (frA w c2 (n0 + kc)))
    (hw : AlOk w) (hAA : ∀ q, A q → w.2.2.2 ≤ q) (hsq : seqOk (n0 + kc) L2 = true) (hdd : d' + 1 ≤ d) (hR : kc + mc' ≤ mc ∧ ks + ms' ≤ ms) (hkc : kc + mc' = kc') (hks : ks + ms' = ks') {st0 : List PV} (hst : st0 = av.reverse ++ vR c2 0 :: st)
    (K0 : BWg l w M d mc ms A Qc n0 kc' ks' pc' (ws ++ ((c2, 0) :: L2).map (eA w G)) ls st) : BWg l w M d mc ms A Qc n0 kc ks pc (ws ++ [(w.1.1 c2 0, .inr (c2, zsC c2))]) ls st0 := by
  subst hkc
  subst hks
  subst hst
  obtain ⟨idx, hd, hlk, ⟨⟨hcode, hini, ⟨hd1, hd2, hd3⟩, hpl⟩, hins, q, hq, hqn⟩, hnm, hrt, rfl⟩ := hd
  obtain ⟨e1, e2, e3, e4, e5, e6⟩ := ckC_ok hck
  intro p e s m args below meth c H locs lsr hC hB hs hn hA hP hD hS hL
  have hts := hC.2.2.2.2.2.1
  have S : CallFix p m c M.2.1 M.2.2.1 s args UW M.1.cls := ⟨hC.1, hC.2.1, hC.2.2.2.1, hC.2.2.2.2.1, hC.2.2.2.2.2.1⟩
  have hcat : ((st.map (rvv w)).map fun v => v.category).sum ≤ 8 := by rw [noJ_sum w st e5]; exact e6
  have hpre : ∀ U : State, U.heap = H → s.WarmedH U.vm → PcB w (n0 + kc) c2 (vR c2 0 :: av) ((vR c2 0 :: av).map (rvv w)).toArray U := fun U hU hWm => by
    refine ⟨rfl, hC.2.2.2.2.2.2.2.2.1.warm hWm, hB.moved hWm.alike, ?_, by rw [hU]; omega, by rw [hU]; exact vaP_mem.mp hP _ (List.mem_append_right _ List.mem_cons_self)⟩
    rw [hU]
    exact (hC.2.2.2.2.2.2.2.2.2.2.kept fun a h1 h2 => hS.2.1 a h1 fun h3 => h2 (hAA a h3)).moved hWm.alike
  have hrun : va_Run p l e (bR d mc ms) s m args below meth c H locs kc ks mc' ms' (F0 m pc lsr ((av.map (rvv w)).reverse ++ .ref (w.1.1 c2 0) :: st.map (rvv w))) (st.map (rvv w)) (QcB (frA w c2 (n0 + kc)) (FcB w G (n0 + kc + mc') ((c2, 0) :: L2)) (Value.ref (w.1.1 c2 0) :: av.map (rvv w)).toArray) (frA w c2 (n0 + kc)) := by
    rw [hrt] at hcode
    have hG : GoodIn UW (wsM M') := goodIn_UW (fun _ h => h) (by rw [hrt]; exact hcode)
    have hlen : (av.map (rvv w)).length = n := by rw [List.length_map]; exact Nat.succ.inj e1
    have hrm : (bR d' mc' ms').frames + 1 ≤ (bR d mc ms).frames ∧ 8 + (M'.2.2.1 + 11) + (bR d' mc' ms').locals ≤ (bR d mc ms).locals := ⟨hdd, by show 8 + (M'.2.2.1 + 11) + 48 * d' ≤ 48 * d; omega⟩
    rcases hlk with hlk | hlk
    · exact va_runI (b := w.1.1 c2 0) (As := av.map (rvv w)) (rest := st.map (rvv w)) S hM (n := n) ⟨callB_of n hts hG (by unfold wsM; rw [hrt]) rfl rfl (hts _ hini) (hts _ hlk) ⟨hd1, hd2, hd3⟩ hrm, hnm, hts _ hins⟩ ⟨PcB_blind w _ _ _, hpre⟩ rfl hlen hL.1 rfl (lv_room hcat) hd hR
    · exact va_runIN (host := "NameRolls") (b := w.1.1 c2 0) (As := av.map (rvv w)) (rest := st.map (rvv w)) S hM (n := n) ⟨va_cnB n hts hG (by unfold wsM; rw [hrt]) rfl rfl (hC.2.2.2.2.2.2.2.2.1.2.1 _ hlk) (hts _ hini) ⟨hd1, hd2, hd3⟩ hrm, hnm, hts _ hins⟩ ⟨PcB_blind w _ _ _, hpre⟩ rfl hlen hL.1 rfl (lv_room hcat) hd hR
  rw [List.map_append, List.map_reverse]
  intro T hT X
  obtain ⟨v, st₀, t, T', L, h0, X', hLf, f1, f2, ⟨⟨hv, hF⟩, hz, hk⟩, sg⟩ := hrun T hT X
  cases hv
  rw [h0] at hz hk
  rw [← f1] at hF hz hk
  obtain ⟨hF1, hF2⟩ := hF
  have hAold : ∀ a, frA w c2 (n0 + kc) a → A a := fun a ha => by
    rcases ha with rfl | ha
    · exact hD.2 _ _ (show (ws ++ [(w.1.1 c2 0, .inr (c2, zsC c2))])[ws.length]? = some _ by rw [List.getElem?_append_right (Nat.le_refl _), Nat.sub_self]; rfl)
    · exact hA a (by omega)
  have hPw : va_P w.2.1 classes ws T'.heap := fun k x hx => by
    have hkl : k < ws.length := (List.getElem?_eq_some_iff.mp hx).1
    have hx1 : (ws ++ [(w.1.1 c2 0, Sum.inr (c2, zsC c2))])[k]? = some x := by rw [List.getElem?_append_left hkl]; exact hx
    have hlt := (hP k x hx1).lt
    have hne : x.1 ≠ w.1.1 c2 0 := fun q => by
      have := hD.1 k ws.length x (w.1.1 c2 0, .inr (c2, zsC c2)) hx1 (by rw [List.getElem?_append_right (Nat.le_refl _), Nat.sub_self]; rfl) q
      omega
    have := (va_P.kept (ws := [x]) (H1 := T'.heap) (fun j y hy => by
      have h1 : j < 1 := (List.getElem?_eq_some_iff.mp hy).1
      rw [show j = 0 by omega] at hy
      cases hy
      exact hP k x hx1) (fun j y hy => by
      have h1 : j < 1 := (List.getElem?_eq_some_iff.mp hy).1
      rw [show j = 0 by omega] at hy
      cases hy
      exact hk x.1 hlt fun h3 => by
        rcases h3 with h3 | h3
        · exact hne h3
        · omega)) 0 x rfl
    exact this
  have hDn : va_D A (ws ++ ((c2, 0) :: L2).map (eA w G)) := by
    have h1 := vaD_same (y := ent w G c2 0) hD
    have h2 : va_D A ((ws ++ [(w.1.1 c2 0, ent w G c2 0)]) ++ L2.map (eA w G)) := by
      refine vaD_app h1 (vaD_seq (a0 := w.2.2.2 + (n0 + kc)) (seq_at hw L2 _ hsq) fun q hq => hA q (by omega)) fun x hx y hy => ?_
      obtain ⟨j, hj⟩ := List.getElem?_of_mem hy
      have hy1 := seq_at (G := G) hw L2 _ hsq j y hj
      have hx1 : x.1 < H.size := by
        rcases List.mem_append.mp hx with hx | hx
        · obtain ⟨i, hi⟩ := List.getElem?_of_mem hx
          have hil : i < ws.length := (List.getElem?_eq_some_iff.mp hi).1
          exact (hP i x (by rw [List.getElem?_append_left hil]; exact hi)).lt
        · rw [List.mem_singleton.mp hx]
          exact (hP ws.length (w.1.1 c2 0, .inr (c2, zsC c2)) (by rw [List.getElem?_append_right (Nat.le_refl _), Nat.sub_self]; rfl)).lt
      omega
    rw [List.append_assoc] at h2
    exact h2
  have hS1 : va_S A s.heap T'.heap (locs ++ L) := ⟨Nat.le_trans hS.1 hz, fun a h1 h2 => (hk a (Nat.lt_of_lt_of_le h1 hS.1) fun h3 => h2 (hAold a h3)).trans (hS.2.1 a h1 h2), fun x hx => by
    rcases List.mem_append.mp hx with h | h
    · exact hS.2.2 x h
    · exact hAold _ (hLf x h)⟩
  obtain ⟨t2, a1, b1⟩ := K0 p e s m args below meth c T'.heap (locs ++ L) lsr hC hB hs (by omega) hA (hPw.app hF2) hDn hS1 hL T' rfl X'
  exact ⟨t2, sg t2 a1, b1⟩
end BL2
def wW (w : Wo) (G : PH) (ci N : Nat) (done : List Nat) (L : List PR) : va_W := oD w G ci N done :: L.map (eA w G)
theorem wW_app {w : Wo} {G : PH} {ci N : Nat} {done : List Nat} {L L2 : List PR} : wW w G ci N done L ++ L2.map (eA w G) = wW w G ci N done (L ++ L2) := by
  unfold wW
  rw [List.map_append]
  rfl
theorem fval_R {G : PH} {ci k0 c' : Nat} {r : Int} (hf : fSt ci k0 = some c') (hn : ¬ (ci = 4 ∧ k0 = 3)) : fval G ci r k0 = vR c' 0 := by
  unfold fval; rw [if_neg hn, hf]
theorem fval_V {G : PH} {ci k0 : Nat} {r v : Int} (hf : fSt ci k0 = none) (hn : ¬ (ci = 4 ∧ k0 = 3)) (hv : gF G ci r k0 = v) : fval G ci r k0 = vI v := by
  unfold fval; rw [if_neg hn, hf, ← hv]
theorem fD_in {w : Wo} {G : PH} {ci N k0 : Nat} {done : List Nat} {v : PV} (hk : k0 < N) (hd : k0 ∈ done) (hf : fval G ci 0 k0 = v) : ((List.range N).map (fD w G ci done))[k0]? = some (rvv w v) := by
  rw [List.getElem?_map, List.getElem?_range hk]
  show some (fD w G ci done k0) = _
  unfold fD
  rw [if_pos hd, hf]
theorem wW_sA {w : Wo} {G : PH} {ci N ck q0 : Nat} {i v : Int} {done : List Nat} {L : List PR} (hq : L[q0]? = some (ck, 0)) (hn : (L.filter fun p => p.1 == ck).length = 1) (hci : ci ≠ ck) : (wW w G ci N done L).set (q0 + 1) (eA w (sA G ck 0 i v) (ck, 0)) = wW w (sA G ck 0 i v) ci N done L := by
  unfold wW
  show oD w G ci N done :: (L.map (eA w G)).set q0 _ = _
  have e0 : oD w (sA G ck 0 i v) ci N done = oD w G ci N done := rfl
  rw [e0]
  refine congrArg (List.cons _) (List.ext_getElem? fun j => ?_)
  have hlt : q0 < L.length := (List.getElem?_eq_some_iff.mp hq).1
  by_cases hj : j = q0
  · subst hj
    rw [List.getElem?_set_self (by rw [List.length_map]; exact hlt), List.getElem?_map, hq]
    rfl
  · rw [List.getElem?_set_ne (Ne.symm hj), List.getElem?_map, List.getElem?_map]
    cases hp : L[j]? with
    | none => simp only [Option.map_none]
    | some p =>
      have hne : p.1 ≠ ck := fun he => by
        have key : ∀ (L : List PR) (a b : Nat), a < b → ∀ x y, L[a]? = some x → L[b]? = some y → x.1 = ck → y.1 = ck → 2 ≤ (L.filter fun p => p.1 == ck).length := by
          intro L
          induction L with
          | nil => intro a b _ x y hx; simp at hx
          | cons z L ih =>
            intro a b hab x y hx hy h1 h2
            cases b with
            | zero => omega
            | succ b =>
              have hy' : L[b]? = some y := hy
              have one : 1 ≤ (L.filter fun p => p.1 == ck).length := by
                have hm : y ∈ L.filter fun p => p.1 == ck := List.mem_filter.mpr ⟨List.mem_of_getElem? hy', by simp [h2]⟩
                exact List.length_pos_of_mem hm
              cases a with
              | zero =>
                cases hx
                rw [List.filter_cons_of_pos (by simp [h1])]
                show 2 ≤ (L.filter _).length + 1
                omega
              | succ a =>
                have := ih a b (by omega) x y hx hy' h1 h2
                by_cases hz : (z.1 == ck) = true
                · rw [List.filter_cons, if_pos hz]
                  show 2 ≤ (L.filter _).length + 1
                  omega
                · rw [List.filter_cons, if_neg hz]
                  exact this
        rcases Nat.lt_or_gt_of_ne hj with h | h
        · have := key L j q0 h p (ck, 0) hp hq he rfl; omega
        · have := key L q0 j h (ck, 0) p hq hp rfl he; omega
      show some (w.1.1 p.1 p.2, ent w G p.1 p.2) = some (w.1.1 p.1 p.2, ent w (sA G ck 0 i v) p.1 p.2)
      rw [ent_sA (fun z => hne z.1)]
section BL3
variable {l : Launch} {w : Wo} {M : MI} {d mc ms : Nat} {A : Nat → Prop} {Qc : Array Value → State → Outcome → State → Prop} {n0 kc ks kc' ks' pc pc' p1 p2 p3 : Nat} {ws : va_W} {ls : List (Option PV)} {st : List PV} {G : PH} {ci N k0 : Nat} {done : List Nat} {L : List PR}
theorem b_putW {v : PV} (hd : RP M pc ci k0 pc') (hnf : narrow (tyC ci k0) (rvv w v) = rvv w v ∧ fits (tyC ci k0) (rvv w v) = true) (hk : k0 < N) (hf : fval G ci 0 k0 = v) (K0 : BWg l w M d mc ms A Qc n0 kc ks pc' (wW w G ci N (k0 :: done) L) ls st) : BWg l w M d mc ms A Qc n0 kc ks pc (wW w G ci N done L) ls (v :: vR ci 0 :: st) := by
  refine b_put (q0 := 0) (fs := (List.range N).map (fD w G ci done)) hd hnf rfl (by rw [List.length_map, List.length_range]; exact hk) ?_
  rw [fD_put hf]
  exact K0
theorem b_getW {v : PV} (hd : RG M pc ci k0 pc') (hk : k0 < N) (hm : k0 ∈ done) (hf : fval G ci 0 k0 = v) (K0 : BWg l w M d mc ms A Qc n0 kc ks pc' (wW w G ci N done L) ls (v :: st)) : BWg l w M d mc ms A Qc n0 kc ks pc (wW w G ci N done L) ls (vR ci 0 :: st) :=
  b_get (q0 := 0) (fs := (List.range N).map (fD w G ci done)) hd rfl (fD_in hk hm hf) K0
theorem b_itA {ck len t : Nat} (h1 : RA M pc 0 p1) (h2 : RC M p1 ((len : Nat) : Int) p2) (h3 : RNA M p2 t p3) (h4 : RP M p3 ci k0 pc') (hsh : shp ck = (1, len, t)) (ht : t < 4) (hlen : len ≤ 20000) (hz : ∀ i, gA G ck 0 i = 0) (ha : w.1.1 ck 0 = w.2.2.2 + n0 + kc) (hf : fval G ci 0 k0 = vR ck 0) (hr : rty (tyC ci k0) = true) (hk : k0 < N) (hl : ls[0]? = some (some (vR ci 0))) (hR : kc + 1 ≤ mc ∧ ks + len ≤ ms) (hkc : kc + 1 = kc') (hks : ks + len = ks')
    (K0 : BWg l w M d mc ms A Qc n0 kc' ks' pc' (wW w G ci N (k0 :: done) (L ++ [(ck, 0)])) ls []) : BWg l w M d mc ms A Qc n0 kc ks pc (wW w G ci N done L) ls [] := by
  refine b_aload h1 hl (b_const h2 (b_newarr h3 hsh ht hlen hz ha hR hkc hks ?_))
  rw [show wW w G ci N done L ++ [eA w G (ck, 0)] = wW w G ci N done (L ++ [(ck, 0)]) from wW_app (L2 := [(ck, 0)])]
  exact b_putW h4 (rty_ok hr) hk hf K0
theorem b_itI {v : Int} (h1 : RA M pc 0 p1) (h2 : RC M p1 v p2) (h4 : RP M p2 ci k0 pc') (hf : fval G ci 0 k0 = vI v) (hr : tyC ci k0 = .int) (hk : k0 < N) (hl : ls[0]? = some (some (vR ci 0)))
    (K0 : BWg l w M d mc ms A Qc n0 kc ks pc' (wW w G ci N (k0 :: done) L) ls []) : BWg l w M d mc ms A Qc n0 kc ks pc (wW w G ci N done L) ls [] :=
  b_aload h1 hl (b_const h2 (b_putW h4 (by rw [hr]; exact int_ok) hk hf K0))
theorem b_itR {cj j : Nat} (h1 : RA M pc 0 p1) (h2 : RA M p1 j p2) (h4 : RP M p2 ci k0 pc') (hf : fval G ci 0 k0 = vR cj 0) (hr : rty (tyC ci k0) = true) (hk : k0 < N) (hl : ls[0]? = some (some (vR ci 0))) (hj : ls[j]? = some (some (vR cj 0)))
    (K0 : BWg l w M d mc ms A Qc n0 kc ks pc' (wW w G ci N (k0 :: done) L) ls []) : BWg l w M d mc ms A Qc n0 kc ks pc (wW w G ci N done L) ls [] :=
  b_aload h1 hl (b_aload h2 hj (b_putW h4 (rty_ok hr) hk hf K0))
def RNP (M : MI) (pc pc' : Nat) : Prop := ∃ idx, decode M.2.1 pc = .ok (.anewarray idx, 3) ∧ Cond.classLink M.1.cls idx "NameRolls$Person" ∈ UW ∧ pc + 3 = pc'
def RNM (M : MI) (pc t pc' : Nat) : Prop := ∃ idx, decode M.2.1 pc = .ok (.multianewarray idx 2, 4) ∧ Cond.classLink M.1.cls idx ("[" ++ (FieldType.array (aty t)).toString) ∈ UW ∧ pc + 4 = pc'
theorem b_itP {ck len : Nat} (h1 : RA M pc 0 p1) (h2 : RC M p1 ((len : Nat) : Int) p2) (h3 : RNP M p2 p3) (h4 : RP M p3 ci k0 pc') (hsh : shp ck = (1, len, 7)) (hlen : len ≤ 20000) (hz : ∀ i, aref G ck 0 i = none) (ha : w.1.1 ck 0 = w.2.2.2 + n0 + kc) (hf : fval G ci 0 k0 = vR ck 0) (hr : rty (tyC ci k0) = true) (hk : k0 < N) (hl : ls[0]? = some (some (vR ci 0))) (hR : kc + 1 ≤ mc ∧ ks + len ≤ ms) (hkc : kc + 1 = kc') (hks : ks + len = ks')
    (K0 : BWg l w M d mc ms A Qc n0 kc' ks' pc' (wW w G ci N (k0 :: done) (L ++ [(ck, 0)])) ls []) : BWg l w M d mc ms A Qc n0 kc ks pc (wW w G ci N done L) ls [] := by
  refine b_aload h1 hl (b_const h2 (b_anew h3 hsh hlen hz ha hR hkc hks ?_))
  rw [show wW w G ci N done L ++ [eA w G (ck, 0)] = wW w G ci N done (L ++ [(ck, 0)]) from wW_app (L2 := [(ck, 0)])]
  exact b_putW h4 (rty_ok hr) hk hf K0
theorem b_itM {ck rk Nr K t t' p4 : Nat} (h1 : RA M pc 0 p1) (h2 : RC M p1 ((Nr : Nat) : Int) p2) (h2' : RC M p2 ((K : Nat) : Int) p3) (h3 : RNM M p3 t p4) (h4 : RP M p4 ci k0 pc') (hsh : shp ck = (1, Nr, t')) (hsr : shp rk = (1, K, t)) (ht : t < 4) (ht2 : t ≠ 2) (ht' : 4 ≤ t' ∧ t' < 7) (htt : aty t' = .array (aty t)) (hN : Nr ≤ 200) (hK : K ≤ 200) (hsa : aSt ck = some rk) (hz : ∀ r i, gA G rk r i = 0) (hw : AlOk w) (hck : (ck < 190 ∨ 194 ≤ ck) ∧ (rk < 190 ∨ 194 ≤ rk)) (ho : offT ck = n0 + kc ∧ offT rk = n0 + kc + 1)
    (hf : fval G ci 0 k0 = vR ck 0) (hr : rty (tyC ci k0) = true) (hk : k0 < N) (hl : ls[0]? = some (some (vR ci 0))) (hR : kc + (1 + Nr) ≤ mc ∧ ks + (Nr + Nr * K) ≤ ms) (hkc : kc + 1 + Nr = kc') (hks : ks + Nr + Nr * K = ks')
    (K0 : BWg l w M d mc ms A Qc n0 kc' ks' pc' (wW w G ci N (k0 :: done) (L ++ ((ck, 0) :: rowsL rk Nr))) ls []) : BWg l w M d mc ms A Qc n0 kc ks pc (wW w G ci N done L) ls [] := by
  refine b_aload h1 hl (b_const h2 (b_const h2' (b_multi h3 hsh hsr ht ht2 ht' htt hN hK hsa hz ?_ (fun i hi => ?_) hR hkc hks ?_)))
  · rw [hw _ _ hck.1]
    show w.2.2.2 + (offT ck + 0) = _
    omega
  · rw [hw _ _ hck.2]
    show w.2.2.2 + (offT rk + ((i : Nat) : Int).toNat) = _
    omega
  · rw [wW_app]
    exact b_putW h4 (rty_ok hr) hk hf K0
theorem al_at {ck : Nat} (hw : AlOk w) (hk : ck < 190 ∨ 194 ≤ ck) (ho : offT ck = n0 + kc) : w.1.1 ck 0 = w.2.2.2 + n0 + kc := by
  rw [hw _ _ hk]
  show w.2.2.2 + (offT ck + 0) = _
  omega
/-- int rules -/
theorem b_iload {i : Nat} {a : Int} (hd : RL M pc i pc') (hl : ls[i]? = some (some (vI a))) (K0 : BWg l w M d mc ms A Qc n0 kc ks pc' ws ls (vI a :: st)) : BWg l w M d mc ms A Qc n0 kc ks pc ws ls st := by
  intro p e s m args below meth c H locs lsr hC hB hs hn hA hP hD hS hL
  have h := K0 p e s m args below meth c H locs lsr hC hB hs hn hA hP hD hS hL
  rcases hd with ⟨k', hd, hk, rfl⟩ | ⟨hd, rfl⟩
  · exact lv_iload_n hC.1 hC.2.1 hd hk (hL.2.2 _ _ hl) h
  · exact lv_iload hC.1 hC.2.1 hd (hL.2.2 _ _ hl) h
theorem b_istore {i : Nat} {a : Int} {ls' : List (Option PV)} (hd : RS M pc i pc') (hj : jOK ls i = true) (hl : ls.set i (some (vI a)) = ls') (K0 : BWg l w M d mc ms A Qc n0 kc ks pc' ws ls' st) : BWg l w M d mc ms A Qc n0 kc ks pc ws ls (vI a :: st) := by
  subst hl
  intro p e s m args below meth c H locs lsr hC hB hs hn hA hP hD hS hL
  obtain ⟨hi, hd⟩ := hd
  have h := fun (lsr' : Array Slot) (hL' : lv_has lsr' M.2.2.1 ((i, rvv w (vI a)) :: (prs w ls).filter (fun q => !(q.1 == i) && !(q.1 + 1 == i && q.2.category == 2)))) => K0 p e s m args below meth c H locs lsr' hC hB hs hn hA hP hD hS (Lr.stored hj hL')
  rcases hd with ⟨k', hd, hk, rfl⟩ | ⟨hd, rfl⟩
  · exact lv_istore_n hC.1 hC.2.1 hd hk hL.has hi rfl h
  · exact lv_istore hC.1 hC.2.1 hd hL.has hi rfl h
theorem b_iinc {i : Nat} {a n : Int} {ls' : List (Option PV)} (hd : RI M pc i n pc') (hj : jOK ls i = true) (ha : ls[i]? = some (some (vI a))) (hl : ls.set i (some (vI (a + n))) = ls') (K0 : BWg l w M d mc ms A Qc n0 kc ks pc' ws ls' st) : BWg l w M d mc ms A Qc n0 kc ks pc ws ls st := by
  subst hl
  intro p e s m args below meth c H locs lsr hC hB hs hn hA hP hD hS hL
  obtain ⟨hi, hd, rfl⟩ := hd
  have hm : (i, rvv w (vI a)) ∈ prs w ls := prs_mem.mpr ⟨_, ha, rfl⟩
  obtain ⟨k0, hk0⟩ := List.getElem?_of_mem hm
  exact lv_iinc (v := Int32.ofInt (a + n)) hC.1 hC.2.1 hd hL.has hk0 (by rw [Int32.ofInt_add]) hi rfl fun lsr' hL' => K0 p e s m args below meth c H locs lsr' hC hB hs hn hA hP hD hS (Lr.stored hj hL')
theorem b_goto {tgt : Nat} (hd : RB M pc .goto tgt pc') (K0 : BWg l w M d mc ms A Qc n0 kc ks tgt ws ls st) : BWg l w M d mc ms A Qc n0 kc ks pc ws ls st := by
  obtain ⟨off, hd, ht, rfl⟩ := hd
  intro p e s m args below meth c H locs lsr hC hB hs hn hA hP hD hS hL
  exact lv_goto hC.1 hC.2.1 hd ht (K0 p e s m args below meth c H locs lsr hC hB hs hn hA hP hD hS hL)
theorem b_icmp_gt {a b : Int} {tgt : Nat} (hd : RB M pc (.if_icmp .gt) tgt pc') (ha : iR a) (hb : iR b) (kt : b < a → BWg l w M d mc ms A Qc n0 kc ks tgt ws ls st) (kf : a ≤ b → BWg l w M d mc ms A Qc n0 kc ks pc' ws ls st) : BWg l w M d mc ms A Qc n0 kc ks pc ws ls (vI b :: vI a :: st) := by
  obtain ⟨off, hd, ht, rfl⟩ := hd
  intro p e s m args below meth c H locs lsr hC hB hs hn hA hP hD hS hL
  exact lv_icmp_gt hC.1 hC.2.1 hd ht (fun q => kt ((of_lt hb ha).mp q) p e s m args below meth c H locs lsr hC hB hs hn hA hP hD hS hL) (fun q => kf (Int.not_lt.mp (fun z => q ((of_lt hb ha).mpr z))) p e s m args below meth c H locs lsr hC hB hs hn hA hP hD hS hL)
theorem b_icmp_ge {a b : Int} {tgt : Nat} (hd : RB M pc (.if_icmp .ge) tgt pc') (ha : iR a) (hb : iR b) (kt : b ≤ a → BWg l w M d mc ms A Qc n0 kc ks tgt ws ls st) (kf : a < b → BWg l w M d mc ms A Qc n0 kc ks pc' ws ls st) : BWg l w M d mc ms A Qc n0 kc ks pc ws ls (vI b :: vI a :: st) := by
  obtain ⟨off, hd, ht, rfl⟩ := hd
  intro p e s m args below meth c H locs lsr hC hB hs hn hA hP hD hS hL
  exact lv_icmp_ge hC.1 hC.2.1 hd ht (fun q => kt ((of_le hb ha).mp q) p e s m args below meth c H locs lsr hC hB hs hn hA hP hD hS hL) (fun q => kf (Int.not_le.mp (fun z => q ((of_le hb ha).mpr z))) p e s m args below meth c H locs lsr hC hB hs hn hA hP hD hS hL)
theorem b_imul {a b : Int} (hd : RW M pc .imul pc' 1) (K0 : BWg l w M d mc ms A Qc n0 kc ks pc' ws ls (vI (a * b) :: st)) : BWg l w M d mc ms A Qc n0 kc ks pc ws ls (vI b :: vI a :: st) := by
  obtain ⟨hd, rfl⟩ := hd
  intro p e s m args below meth c H locs lsr hC hB hs hn hA hP hD hS hL
  refine lv_imul hC.1 hC.2.1 hd ?_
  rw [← Int32.ofInt_mul]
  exact K0 p e s m args below meth c H locs lsr hC hB hs hn hA hP hD hS hL
theorem b_iadd {a b : Int} (hd : RW M pc .iadd pc' 1) (K0 : BWg l w M d mc ms A Qc n0 kc ks pc' ws ls (vI (a + b) :: st)) : BWg l w M d mc ms A Qc n0 kc ks pc ws ls (vI b :: vI a :: st) := by
  obtain ⟨hd, rfl⟩ := hd
  intro p e s m args below meth c H locs lsr hC hB hs hn hA hP hD hS hL
  refine lv_iadd hC.1 hC.2.1 hd ?_
  rw [← Int32.ofInt_add]
  exact K0 p e s m args below meth c H locs lsr hC hB hs hn hA hP hD hS hL
theorem b_ast0 {ck len q0 : Nat} {i v : Int} (hst : ∃ op, decode M.2.1 pc = .ok (op, 1) ∧ pc + 1 = pc' ∧ ((op = .iastore ∧ shp ck = (1, len, 0)) ∨ (op = .bastore ∧ shp ck = (1, len, 2) ∧ (v = 0 ∨ v = 1)))) (hi : 0 ≤ i ∧ i < len) (hlen : len ≤ 20000) (hq : L[q0]? = some (ck, 0)) (hn1 : (L.filter fun p => p.1 == ck).length = 1) (hci : ci ≠ ck)
    (K0 : BWg l w M d mc ms A Qc n0 kc ks pc' (wW w (sA G ck 0 i v) ci N done L) ls st) : BWg l w M d mc ms A Qc n0 kc ks pc (wW w G ci N done L) ls (vI v :: vI i :: vR ck 0 :: st) := by
  obtain ⟨op, hd, rfl, hop⟩ := hst
  intro p e s m args below meth c H locs lsr hC hB hs hn hA hP hD hS hL
  obtain ⟨g1, g2⟩ := of_in (i := i) (n := len) hi.1 hi.2 (by omega)
  have hK := hC.2.2.2.2.2.2.2.2.1.1
  have hset := wW_sA (w := w) (G := G) (N := N) (i := i) (v := v) (done := done) hq hn1 hci
  have he : (wW w G ci N done L)[q0 + 1]? = some (eA w G (ck, 0)) := by
    show (L.map (eA w G))[q0]? = _
    rw [List.getElem?_map, hq]
    rfl
  have go : ∀ t, t < 4 → shp ck = (1, len, t) → ∀ (H1 : Heap) (locs1 : List Loc), va_P w.2.1 classes ((wW w G ci N done L).set (q0 + 1) (w.1.1 ck 0, .inl (w.2.2.1 t, len, .inl (upd (fun j : Nat => Int32.ofInt (gA G ck 0 j)) (Int32.ofInt i).toNatClampNeg (Int32.ofInt v))))) H1 → va_D A ((wW w G ci N done L).set (q0 + 1) (w.1.1 ck 0, .inl (w.2.2.1 t, len, .inl (upd (fun j : Nat => Int32.ofInt (gA G ck 0 j)) (Int32.ofInt i).toNatClampNeg (Int32.ofInt v))))) → va_S A H H1 locs1 →
      W p l e (bR d mc ms) s m args below meth c H1 locs1 kc ks (MQ below Qc args s mc ms A) (F0 m (pc + 1) lsr (st.map (rvv w))) := by
    intro t ht hsh H1 locs1 hP1 hD1 hS1
    have e2 : ((w.1.1 ck 0, .inl (w.2.2.1 t, len, .inl (upd (fun j : Nat => Int32.ofInt (gA G ck 0 j)) (Int32.ofInt i).toNatClampNeg (Int32.ofInt v)))) : Nat × va_E) = eA w (sA G ck 0 i v) (ck, 0) := by
      show _ = (w.1.1 ck 0, ent w (sA G ck 0 i v) ck 0)
      rw [ent_i hsh ht, g2, upd_ent hi.1]
    rw [e2, hset] at hP1 hD1
    exact w_sz fun hz => K0 p e s m args below meth c H1 locs1 lsr hC hB hs (by have := hS1.1; omega) hA hP1 hD1 (hS.via hS1) hL
  rcases hop with ⟨rfl, hsh⟩ | ⟨rfl, hsh, hv⟩
  · have he1 : (wW w G ci N done L)[q0 + 1]? = some (w.1.1 ck 0, .inl (w.2.2.1 0, len, .inl fun j : Nat => Int32.ofInt (gA G ck 0 j))) := by
      rw [he]
      show some (w.1.1 ck 0, ent w G ck 0) = _
      rw [ent_i hsh (by decide)]
    exact va_iast hC.1 hC.2.1 hK hP hD hS.now (q0 + 1) 0 he1 (tys_at (by omega)) g1 hd (go 0 (by decide) hsh)
  · have he1 : (wW w G ci N done L)[q0 + 1]? = some (w.1.1 ck 0, .inl (w.2.2.1 2, len, .inl fun j : Nat => Int32.ofInt (gA G ck 0 j))) := by
      rw [he]
      show some (w.1.1 ck 0, ent w G ck 0) = _
      rw [ent_i hsh (by decide)]
    exact va_zast hC.1 hC.2.1 hK hP hD hS.now (q0 + 1) 2 he1 (tys_at (by omega)) g1 hd (by rw [nar_z hv]; exact go 2 (by decide) hsh)
end BL3
def isI : FieldType → Bool
  | .int => true
  | .boolean => true
  | .byte => true
  | .short => true
  | _ => false
theorem isI_def {t : FieldType} (h : isI t = true) : defaultValue t = .int 0 := by
  cases t <;> first | rfl | (simp [isI] at h)
def chkD (G : PH) (ci N : Nat) (done : List Nat) : Bool := (List.range N).all fun k => decide (k ∈ done) || (isI (tyC ci k) && ((fSt ci k).isNone && (!(decide (ci = 4 ∧ k = 3)) && decide (gF G ci 0 k = 0))))
theorem chk_ok {w : Wo} {G : PH} {ci N : Nat} {done : List Nat} (h : chkD G ci N done = true) : ∀ k, k < N → k ∉ done → rvv w (fval G ci 0 k) = defaultValue (tyC ci k) := by
  intro k hk hd
  have h1 := List.all_eq_true.mp h k (List.mem_range.mpr hk)
  simp only [Bool.or_eq_true, Bool.and_eq_true, decide_eq_true_eq, Bool.not_eq_true', decide_eq_false_iff_not, Option.isNone_iff_eq_none] at h1
  rcases h1 with h1 | ⟨h1, h2, h3, h4⟩
  · exact absurd h1 hd
  · rw [fval_V h2 h3 h4, isI_def h1]
    rfl
theorem fin_W {w : Wo} {G : PH} {ci N : Nat} {done : List Nat} {L Lc : List PR} {H : Heap} (hs : shp ci = (0, N, ci)) (hck : chkD G ci N done = true) (hL : L = Lc) (hP : va_P w.2.1 classes (wW w G ci N done L) H) : va_P w.2.1 classes (((ci, 0) :: Lc).map (eA w G)) H := by
  subst hL
  unfold wW at hP
  rw [fD_all hs (chk_ok hck)] at hP
  exact hP
theorem frA_base {w : Wo} {ci n : Nat} (hw : AlOk w) (hk : ci < 190 ∨ 194 ≤ ci) : ∀ q, frA w ci n q → w.2.2.2 ≤ q := by
  intro q h
  rcases h with rfl | h
  · rw [hw _ _ hk]; exact Nat.le_add_right _ _
  · omega
theorem st_W {w : Wo} {G : PH} {ci N : Nat} (h : (shp ci).2.1 = N) : [((w.1.1 ci 0, .inr (ci, zsC ci)) : Nat × va_E)] = wW w G ci N [] [] := by
  show _ = [oD w G ci N []]
  rw [fD_0 w G ci h]
def kfree (ck : Nat) (L : List PR) : Bool := L.all fun p => p.1 != ck
theorem wW_uA {w : Wo} {G : PH} {ci N ck : Nat} {f : Int → Int} {done : List Nat} {L : List PR} (h : kfree ck L = true) : wW w (uA G ck 0 f) ci N done L = wW w G ci N done L := by
  unfold wW
  refine congrArg (List.cons _) (List.map_congr_left fun p hp => ?_)
  have h1 := List.all_eq_true.mp h p hp
  have h2 : p.1 ≠ ck := by simpa using h1
  show (w.1.1 p.1 p.2, ent w (uA G ck 0 f) p.1 p.2) = (w.1.1 p.1 p.2, ent w G p.1 p.2)
  rw [ent_uA (fun z => h2 z.1)]
theorem wW_sA2 {w : Wo} {G : PH} {ci N ck : Nat} {i v : Int} {done : List Nat} {L : List PR} (h : kfree ck L = true) : wW w (sA G ck 0 i v) ci N done L = wW w G ci N done L := by
  unfold wW
  refine congrArg (List.cons _) (List.map_congr_left fun p hp => ?_)
  have h1 := List.all_eq_true.mp h p hp
  have h2 : p.1 ≠ ck := by simpa using h1
  show (w.1.1 p.1 p.2, ent w (sA G ck 0 i v) p.1 p.2) = (w.1.1 p.1 p.2, ent w G p.1 p.2)
  rw [ent_sA (fun z => h2 z.1)]
theorem vaD_fst {A : Nat → Prop} {a b : va_W} (he : a.map Prod.fst = b.map Prod.fst) (hb : va_D A b) : va_D A a := by
  have key : ∀ (k : Nat) (x : Nat × va_E), a[k]? = some x → ∃ y, b[k]? = some y ∧ y.1 = x.1 := fun k x hk => by
    have h1 : (a.map Prod.fst)[k]? = some x.1 := by rw [List.getElem?_map, hk]; rfl
    rw [he, List.getElem?_map] at h1
    cases hy : b[k]? with
    | none => rw [hy] at h1; cases h1
    | some y => rw [hy] at h1; exact ⟨y, rfl, Option.some.inj h1⟩
  refine ⟨fun i j x y hi hj hxy => ?_, fun k x hk => ?_⟩
  · obtain ⟨x', h1, e1⟩ := key i x hi
    obtain ⟨y', h2, e2⟩ := key j y hj
    exact hb.1 i j x' y' h1 h2 (by rw [e1, e2, hxy])
  · obtain ⟨x', h1, e1⟩ := key k x hk
    rw [← e1]
    exact hb.2 k x' h1
theorem vaD_off {w : Wo} {G : PH} {L : List PR} (hw : AlOk w) (hk : (L.all fun p => decide (p.1 < 190 ∨ 194 ≤ p.1)) = true) (hn : (L.map fun p => offn p.1 p.2).Nodup) : va_D (Ab w) (L.map (eA w G)) := by
  have ha : ∀ p ∈ L, w.1.1 p.1 p.2 = w.2.2.2 + offn p.1 p.2 := fun p hp => hw _ _ (by simpa using List.all_eq_true.mp hk p hp)
  have key : ∀ (k : Nat) (x : Nat × va_E), (L.map (eA w G))[k]? = some x → ∃ p, L[k]? = some p ∧ p ∈ L ∧ x.1 = w.2.2.2 + offn p.1 p.2 := fun k x hx => by
    rw [List.getElem?_map] at hx
    cases hp : L[k]? with
    | none => rw [hp] at hx; cases hx
    | some p =>
      rw [hp] at hx
      cases hx
      exact ⟨p, rfl, List.mem_of_getElem? hp, ha p (List.mem_of_getElem? hp)⟩
  have lt : ∀ i j : Nat, i < j → ∀ p q, L[i]? = some p → L[j]? = some q → offn p.1 p.2 ≠ offn q.1 q.2 := fun i j hij p q hi hj => by
    have hpw := List.pairwise_iff_getElem.mp hn
    have hjl : j < L.length := (List.getElem?_eq_some_iff.mp hj).1
    have h := hpw i j (by rw [List.length_map]; omega) (by rw [List.length_map]; omega) hij
    rw [List.getElem_map, List.getElem_map] at h
    rw [(List.getElem?_eq_some_iff.mp hi).2, (List.getElem?_eq_some_iff.mp hj).2] at h
    exact h
  refine ⟨fun i j x y hi hj hxy => ?_, fun k x hx => ?_⟩
  · obtain ⟨p, h1, -, e1⟩ := key i x hi
    obtain ⟨q, h2, -, e2⟩ := key j y hj
    rcases Nat.lt_trichotomy i j with h | h | h
    · have := lt i j h p q h1 h2; omega
    · exact h
    · have := lt j i h q p h2 h1; omega
  · obtain ⟨p, -, -, e1⟩ := key k x hx
    show w.2.2.2 ≤ x.1
    omega
def PcL (w : Wo) (n0 : Nat) (av : List PV) (ws : va_W) : Array Value → State → Prop := fun v U => v = (av.map (rvv w)).toArray ∧ Kw w U ∧ Kb U ∧ Ro w U U.heap ∧ U.heap.size = w.2.2.2 + n0 ∧ va_P w.2.1 classes ws U.heap
theorem PcL_blind (w : Wo) (n0 : Nat) (av : List PV) (ws : va_W) : FrameBlind (PcL w n0 av ws) := by
  intro a U g mk q
  obtain ⟨q1, q2, q3, q4, q5, q6⟩ := q
  exact ⟨q1, Kw.same (s := U) (U := U.calling g mk a) rfl q2, Kb.moved (u := U) (U := U.calling g mk a) (Vm.Alike.refl _) q3, Ro.moved (u := U) (U := U.calling g mk a) (Vm.Alike.refl _) q4, q5, q6⟩
theorem met_bw {l : Launch} {w : Wo} {M : MI} {d mc ms n0 : Nat} {Qc : Array Value → State → Outcome → State → Prop} {av : List PV} {ws : va_W} (hy : plainName M.1.cls = true) (hj : noJ av = true) (hn : av.length ≤ M.2.2.1) (hD : va_D (Ab w) ws) (h : BWg l w M d mc ms (Ab w) Qc n0 0 0 0 ws (inl' M av) []) :
    Met l M.1 (wsM M) (bR d mc ms) (PcL w n0 av ws) Qc mc ms (Ab w) := by
  refine Met.ofW (cc := M.2.1) (maxL := M.2.2.1) (ret := M.2.2.2) hy rfl ?_
  intro p e s m args below meth c s₁ B hml hv
  obtain ⟨rfl, hK, hB, hR, hz, hx⟩ := hv
  have hts := atoms_spec (ws := wsM M) B.pre
  have hown : s.vm.findClass M.1.cls = some m.cls := findClass_of_methodNamed B.named
  have hcat := noJ_cat w av hj
  have hsl := sl_cat1 _ hcat
  rw [lg_entry_eq]
  have hl := lv_entry (av.map (rvv w)) (n := M.2.2.1) (by rw [hsl, List.length_map, List.length_map]; exact hn)
  rw [hsl] at hl ⊢
  refine h p e s m _ below meth c s.heap [] _ ⟨B.exec, B.bytes, B.returns, hml, hown, fun x hx => hts x (List.mem_cons_of_mem _ hx), B.notSynchronized, (name_of_methodNamed B.named B.method).1, hK, by omega, hR⟩ hB hz (by omega) (fun q hq => by show w.2.2.2 ≤ q; omega) hx hD va_S.rf ⟨hl.1, hl.2.1, fun i v hi => ?_⟩
  unfold inl' at hi
  by_cases hlt : i < av.length
  · rw [List.getElem?_append_left (by rw [List.length_map]; exact hlt), List.getElem?_map] at hi
    cases hx : av[i]? with
    | none => rw [hx] at hi; cases hi
    | some x =>
      rw [hx] at hi
      cases hi
      rw [List.getElem?_toArray, List.getElem?_append_left (by rw [List.length_map, List.length_map]; exact hlt), List.getElem?_map, List.getElem?_map, hx]
      rfl
  · rw [List.getElem?_append_right (by rw [List.length_map]; omega)] at hi
    have := (List.mem_replicate.mp (List.mem_of_getElem? hi)).2
    cases this
theorem b_toPW {l : Launch} {w : Wo} {M : MI} {d K n0 kc ks pc : Nat} {ws : va_W} {ls : List (Option PV)} {st : List PV} {G : PH} {Φ : Wo → Option PV → PH → Prop} (hk : kc ≤ K) (hk2 : ks ≤ 12 * K) (hsub : ∀ x ∈ wl w G, x ∈ ws) (hDl : va_D (Ab w) (wl w G)) (hO : OKs w G ls st) (K0 : PWg l w M d K K pc ls st G Φ) : BWg l w M d K (12 * K) (Ab w) (Qcw Φ w) n0 kc ks pc ws ls st := by
  intro p e s m args below meth c H locs lsr hC hB hs hn hA hP hD hS hL
  exact W.widen (k := K) (n := 12 * K) hk hk2 (K0 p e s m args below meth c H locs lsr hC ⟨vaP_mem.mpr fun x hx => vaP_mem.mp hP x (hsub x hx), hDl⟩ hO hS hL)
def gaF (c k : Nat) : Int := match c, k with
  | 5, 12 => -1
  | 9, 9 => -1
  | 10, 5 => 10
  | 12, 57 => -1
  | 12, 62 => 10
  | 12, 63 => -1
  | _, _ => 0
/-- the heap at first, but for three arrays of the class and two of the reference -/
def ga : PH := (fun c _ k => gaF c k, fun _ _ _ => 0, fun c _ i => if c = 4 ∧ i = 3 then some (106, 0) else none)
def alF (n : Int) : Int → Int := fun j => if 29 ≤ j ∧ j < 29 * n ∧ j % 29 = 0 then 1 else 0
def tsF (n : Int) : Int → Int := fun j => if 0 ≤ j ∧ j < n then -1 else 0
def gr : PH := uA (uA ga 53 0 (alF 27)) 58 0 (tsF 4)
def gt : PH := sA (sA gr 95 0 0 (-1)) 95 0 1 (-1)
theorem ga_own (c : Nat) : uA ga c 0 (fun _ => 0) = ga := by
  have h := uA_self ga c 0
  exact h
theorem al_0 : uA ga 53 0 (alF 1) = ga := by
  rw [show alF 1 = fun _ => 0 from funext fun j => if_neg (by omega)]
  exact ga_own _
theorem ts_0 : uA (uA ga 53 0 (alF 27)) 58 0 (tsF 0) = uA ga 53 0 (alF 27) := by
  rw [show tsF 0 = fun _ => 0 from funext fun j => if_neg (by omega)]
  exact uA_self (uA ga 53 0 (alF 27)) 58 0
theorem al_step {i : Int} (h : 1 ≤ i) : upA (alF i) (i * 28 + i) 1 = alF (i + 1) := by
  funext j
  unfold upA alF
  by_cases e : j = i * 28 + i
  · rw [if_pos e, if_pos (by omega)]
  · rw [if_neg e]
    by_cases e2 : 29 ≤ j ∧ j < 29 * i ∧ j % 29 = 0
    · rw [if_pos e2, if_pos (by omega)]
    · rw [if_neg e2, if_neg (by omega)]
theorem ts_step {i : Int} (h : 0 ≤ i) : upA (tsF i) i (-1) = tsF (i + 1) := by
  funext j
  unfold upA tsF
  by_cases e : j = i
  · rw [if_pos e, if_pos (by omega)]
  · rw [if_neg e]
    by_cases e2 : 0 ≤ j ∧ j < i
    · rw [if_pos e2, if_pos (by omega)]
    · rw [if_neg e2, if_neg (by omega)]
