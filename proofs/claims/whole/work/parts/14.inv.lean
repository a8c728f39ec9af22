/-! What binds the class's cells (of X) to the reference's (of Y). -/
def ptOk (n p : Int) : Prop := (0 ≤ p ∧ p < n) ∨ p = 16 ∨ p = 17
def ILand (X Y : PH) : Prop :=
  (0 ≤ (gF X 2 0 2) ∧ (gF X 2 0 2) ≤ 16 ∧ (gF Y 12 0 3) = (gF X 2 0 2)) ∧
  (∀ i, 0 ≤ i → i < (gF X 2 0 2) → (gA Y 200 0 (i)) = (gA X 41 0 (i)) ∧ (0 ≤ (gA X 41 0 (i)) ∧ (gA X 41 0 (i)) ≤ 1) ∧ (gA Y 201 0 (i)) = (gA X 42 0 (i)) ∧ 1 ≤ (gA X 42 0 (i)) ∧ (gA X 42 0 (i)) ≤ 99) ∧
  (∀ k, 0 ≤ k → k < 324 → (gA Y 202 0 (k)) = (gA X 43 0 (k)) ∧ 0 ≤ (gA X 43 0 (k)) ∧ (gA X 43 0 (k)) ≤ 9) ∧
  (∀ u v, 0 ≤ u → u < 18 → 0 ≤ v → v < 18 → 0 < (gA X 43 0 (u * 18 + v)) → ptOk (gF X 2 0 2) u)
/-- one person: the class's row i, the reference's place i -/
def pers1 (q day camps : Int) (X Y : PH) (i : Int) : Prop :=
  (gD X 30 0 i = some (3, i) ∧ (gF X 3 (i) 0) = i) ∧
  ((gA Y 204 0 (i)) = (gF X 3 (i) 1) ∧ 1 ≤ (gF X 3 (i) 1) ∧ (gF X 3 (i) 1) ≤ 7) ∧
  ((gA Y 205 0 (i)) = (gF X 3 (i) 2) ∧ 0 ≤ (gF X 3 (i) 2) ∧ (gF X 3 (i) 2) ≤ 1) ∧
  ((gA Y 208 0 (i)) = (gF X 3 (i) 3) ∧ 0 ≤ (gF X 3 (i) 3) ∧ (gF X 3 (i) 3) ≤ 99) ∧
  ((gA Y 209 0 (i)) = (gF X 3 (i) 4) ∧ ((gF X 3 (i) 4) = -1 ∨ ((gF X 3 (i) 1) = 6 ∧ 0 ≤ (gF X 3 (i) 4) ∧ (gF X 3 (i) 4) < i ∧ (gF X 3 ((gF X 3 (i) 4)) 2) = (gF X 3 (i) 2)))) ∧
  ((gA Y 212 0 (i)) = (gF X 3 (i) 5) ∧ 0 ≤ (gF X 3 (i) 5) ∧ (gF X 3 (i) 5) ≤ day) ∧
  ((gA Y 210 0 (i)) = (gF X 3 (i) 6) ∧ 0 ≤ (gF X 3 (i) 6) ∧ (gF X 3 (i) 6) ≤ 10) ∧
  ((gA Y 211 0 (i)) = (gF X 3 (i) 7) ∧ 0 ≤ (gF X 3 (i) 7) ∧ (gF X 3 (i) 7) ≤ day) ∧
  ((gA Y 206 0 (i)) = (gF X 3 (i) 8) ∧ 0 ≤ (gF X 3 (i) 8) ∧ (gF X 3 (i) 8) ≤ 8) ∧
  ((gA Y 213 0 (i)) = (gF X 3 (i) 9) ∧ 0 ≤ (gF X 3 (i) 9) ∧ (gF X 3 (i) 9) ≤ day) ∧
  ((gF X 3 (i) 8) = 0 → (gA Y 207 0 (i)) = (gF X 3 (i) 10) ∧ 0 ≤ (gF X 3 (i) 10) ∧ (gF X 3 (i) 10) < camps) ∧
  ((gF X 3 (i) 8) = 1 → (gA Y 207 0 (i)) = (gF X 3 (i) 10) ∧ ptOk camps (gF X 3 (i) 10) ∧ (gA Y 214 0 (i)) = (gF X 3 (i) 11) ∧ day ≤ (gF X 3 (i) 11) ∧ (i < q → day < (gF X 3 (i) 11)) ∧ (gF X 3 (i) 11) ≤ 762) ∧
  (2 ≤ (gF X 3 (i) 8) → (gF X 3 (i) 10) = -1) ∧ ((gF X 3 (i) 8) ≠ 1 → (gF X 3 (i) 11) = -1)
def IPers (np : Nat) (q : Int) (X Y : PH) : Prop :=
  ((gF X 1 0 1) = np ∧ (gF X 1 0 1) ≤ 150 ∧ (gF Y 12 0 17) = (gF X 1 0 1)) ∧ ((gF Y 12 0 0) = (gF X 1 0 2) ∧ 0 ≤ (gF X 1 0 2) ∧ (gF X 1 0 2) ≤ 600) ∧
  (∀ g, 0 ≤ g → g < 10 → (gA Y 203 0 (g)) = (gA X 31 0 (g)) ∧ 0 ≤ (gA X 31 0 (g)) ∧ (gA X 31 0 (g)) ≤ 99) ∧
  ∀ i, 0 ≤ i → i < (gF X 1 0 1) → pers1 q (gF X 1 0 2) (gF X 2 0 2) X Y i
/-- on the way to a camp -/
def owP (X : PH) (i : Int) : Prop := (gF X 3 (i) 8) = 1 ∧ (gF X 3 (i) 10) < 16
def stay1 (day size : Int) (X Y : PH) (s : Int) : Prop :=
  ((gA Y 215 0 (s)) = (gA X 32 0 (s)) ∧ 0 ≤ (gA X 32 0 (s)) ∧ (gA X 32 0 (s)) < size) ∧ (gA Y 216 0 (s)) = (gA X 33 0 (s)) ∧
  ((gA Y 217 0 (s)) = (gA X 34 0 (s)) ∧ 0 ≤ (gA X 34 0 (s)) ∧ (gA X 34 0 (s)) ≤ day) ∧ (gA Y 218 0 (s)) = (gA X 35 0 (s)) ∧
  (((gA X 35 0 (s)) = -1 ∧ (gF X 3 ((gA X 32 0 (s))) 8) = 0) ∨ (0 ≤ (gA X 35 0 (s)) ∧ (gA X 35 0 (s)) ≤ day))
noncomputable def IStay (X Y : PH) : Prop :=
  ((gF Y 12 0 22) = (gF X 1 0 3) ∧ 0 ≤ (gF X 1 0 3) ∧ (gF X 1 0 3) + cnt (owP X) (gF X 1 0 1) ≤ 400) ∧ ∀ s, 0 ≤ s → s < (gF X 1 0 3) → stay1 (gF X 1 0 2) (gF X 1 0 1) X Y s
/-- the day on which the first letter with a fact comes -/
def comesOk (letters : Int) (sent : Int → Int) (told comes : Int) : Prop :=
  (∃ l, 0 ≤ l ∧ l < letters ∧ told ≤ sent l ∧ (∀ k, 0 ≤ k → k < l → sent k < told) ∧ comes = sent l + 7) ∨ ((∀ k, 0 ≤ k → k < letters → sent k < told) ∧ comes = 1000000000)
def IFact (X Y : PH) : Prop :=
  ((gF Y 12 0 27) = (gF X 9 0 0) ∧ 0 ≤ (gF X 9 0 0) ∧ (gF X 9 0 0) ≤ 300) ∧ ((gF Y 12 0 29) = (gF X 9 0 1) ∧ 0 ≤ (gF X 9 0 1) ∧ (gF X 9 0 1) ≤ 60) ∧
  (((gF X 9 0 1) = 0 ∧ (gF X 9 0 9) = -1) ∨ (0 < (gF X 9 0 1) ∧ (gF X 9 0 9) = (gA Y 223 0 ((gF X 9 0 1) - 1)))) ∧
  (∀ l, 0 ≤ l → l < (gF X 9 0 1) → 0 ≤ (gA Y 223 0 (l)) ∧ (gA Y 223 0 (l)) ≤ (gF X 1 0 2)) ∧ (∀ k l, 0 ≤ k → k ≤ l → l < (gF X 9 0 1) → (gA Y 223 0 (k)) ≤ (gA Y 223 0 (l))) ∧
  ∀ i, 0 ≤ i → i < (gF X 9 0 0) → ((gA Y 219 0 (i)) = (gA X 83 0 (i)) ∧ 0 ≤ (gA X 83 0 (i)) ∧ (gA X 83 0 (i)) < (gF X 1 0 1)) ∧ ((gA Y 220 0 (i)) = (gA X 84 0 (i)) ∧ 0 ≤ (gA X 84 0 (i)) ∧ (gA X 84 0 (i)) ≤ 2) ∧
    ((gA Y 221 0 (i)) = (gA X 85 0 (i)) ∧ 0 ≤ (gA X 85 0 (i)) ∧ (gA X 85 0 (i)) ≤ 10) ∧ ((gA Y 222 0 (i)) = (gA X 86 0 (i)) ∧ 0 ≤ (gA X 86 0 (i)) ∧ (gA X 86 0 (i)) ≤ (gF X 1 0 2)) ∧
    comesOk (gF X 9 0 1) (gA Y 223 0) (gA X 86 0 (i)) (gA X 87 0 (i))
def IProm (X Y : PH) : Prop :=
  ((gF Y 12 0 34) = (gF X 9 0 2) ∧ 0 ≤ (gF X 9 0 2) ∧ (gF X 9 0 2) ≤ 40) ∧
  ∀ i, 0 ≤ i → i < (gF X 9 0 2) → ((gA Y 224 0 (i)) = (gA X 88 0 (i)) ∧ 0 ≤ (gA X 88 0 (i)) ∧ (gA X 88 0 (i)) ≤ 1) ∧ (gA Y 225 0 (i)) = (gA X 89 0 (i)) ∧ (gA Y 226 0 (i)) = (gA X 90 0 (i)) ∧ (gA Y 227 0 (i)) = (gA X 91 0 (i))
def bytesOk (n : Int) (f g : Int → Int) : Prop := ∀ j, 0 ≤ j → j < n → g j = pAnd (f j) 255 ∧ 0 ≤ g j ∧ g j ≤ 255 ∧ -128 ≤ f j ∧ f j ≤ 127
def ITape (X Y : PH) : Prop := ((gF Y 12 0 36) = (gF X 8 0 1) ∧ 0 ≤ (gF X 8 0 1) ∧ (gF X 8 0 1) ≤ 160) ∧ bytesOk (gF X 8 0 1) (gA X 76 0) (gA Y 228 0)
def IText (X Y : PH) : Prop :=
  ((gF Y 12 0 42) = (gF X 8 0 0) ∧ 0 ≤ (gF X 8 0 0) ∧ (gF X 8 0 0) ≤ 20) ∧
  ∀ t, 0 ≤ t → t < (gF X 8 0 0) → ((gA Y 230 0 (t)) = (gA X 79 0 (t)) ∧ 0 ≤ (gA X 79 0 (t)) ∧ (gA X 79 0 (t)) ≤ 160) ∧ (gA Y 231 0 (t)) = (gA X 80 0 (t)) ∧ (gA Y 232 0 (t)) = (gA X 81 0 (t)) ∧ (gA Y 233 0 (t)) = (gA X 82 0 (t)) ∧
    bytesOk (gA X 79 0 (t)) (gA X 78 t) (fun j => (gA Y 229 0 (160 * t + j))) ∧ textOk (fun j => (gA Y 229 0 (160 * t + j))) (gA X 79 0 (t))
/-- a word's letters, the first lowest -/
def wordOk (wd n : Int) (lt : Int → Int) : Prop := 1 ≤ n ∧ n ≤ 5 ∧ (∀ j, 0 ≤ j → j < 5 → 0 ≤ lt j ∧ lt j ≤ 27 ∧ (j < n → 1 ≤ lt j) ∧ (n ≤ j → lt j = 0)) ∧ wd = lt 0 + 28 * lt 1 + 784 * lt 2 + 21952 * lt 3 + 614656 * lt 4
def IRow (X Y : PH) : Prop :=
  ((gF Y 12 0 55) = (gF X 5 0 0) ∧ 0 ≤ (gF X 5 0 0) ∧ (gF X 5 0 0) ≤ 100) ∧
  (∀ r, 0 ≤ r → r < (gF X 5 0 0) → ((gA Y 236 0 (r)) = (gA X 47 0 (r)) ∧ 0 ≤ (gA X 47 0 (r)) ∧ (gA X 47 0 (r)) ≤ 1) ∧ wordOk (gA Y 237 0 (r)) (gA X 50 0 (r)) (gA X 49 r) ∧
    ((gA Y 238 0 (r)) = (gA X 51 0 (r)) ∧ -1 ≤ (gA X 51 0 (r)) ∧ (gA X 51 0 (r)) ≤ 99) ∧ (gA Y 239 0 (r)) = (gA X 52 0 (r)) ∧ -1 ≤ (gA X 52 0 (r)) ∧ (gA X 52 0 (r)) ≤ 99) ∧
  ∀ x y, 1 ≤ x → x ≤ 26 → 1 ≤ y → y ≤ 26 → (gA Y 240 0 (27 * x + y)) = (gA X 53 0 (x * 28 + y)) ∧ ((gA X 53 0 (x * 28 + y)) = 0 ∨ (gA X 53 0 (x * 28 + y)) = 1)
def ITab (X Y : PH) : Prop :=
  (gF Y 12 0 57) = (gF X 5 0 12) ∧ ∀ t, 0 ≤ t → t < 4 → ((gA Y 270 0 (t)) = (gA X 58 0 (t)) ∧ -1 ≤ (gA X 58 0 (t)) ∧ (gA X 58 0 (t)) ≤ 1) ∧ ((gA Y 271 0 (t)) = (gA X 59 0 (t)) ∧ 0 ≤ (gA X 59 0 (t)) ∧ (gA X 59 0 (t)) ≤ 60) ∧
    ∀ i, 0 ≤ i → i < 60 → (gA Y 272 0 (60 * t + i)) = (gA X 57 (t) (i)) ∧ -32768 ≤ (gA X 57 (t) (i)) ∧ (gA X 57 (t) (i)) ≤ 32767
def ITrade (X Y : PH) : Prop :=
  (∀ s, 0 ≤ s → s < 2 → ((gA Y 243 0 (s)) = (gA X 94 0 (s)) ∧ 0 ≤ (gA X 94 0 (s)) ∧ (gA X 94 0 (s)) ≤ 7) ∧ (∀ i, 0 ≤ i → i < (gA X 94 0 (s)) → (gA Y 242 0 (7 * s + i)) = (gA X 93 (s) (i)) ∧ 0 ≤ (gA X 93 (s) (i)) ∧ (gA X 93 (s) (i)) < (gF X 1 0 1) ∧ (gF X 3 ((gA X 93 (s) (i))) 2) = s) ∧
    (∀ i j, 0 ≤ i → i < j → j < (gA X 94 0 (s)) → (gA X 93 (s) (i)) ≠ (gA X 93 (s) (j))) ∧ (gA X 95 0 (s)) = if 0 ≤ (gF Y 12 0 63) then (gA Y 244 0 (s)) else -1) ∧
  (gF Y 12 0 62) = (gF X 10 0 5) ∧ 1 ≤ (gF X 10 0 5) ∧ (gF X 10 0 5) ≤ 99
def IShip (X Y : PH) : Prop :=
  ((gF Y 12 0 71) = (gF X 7 0 2) ∧ 0 ≤ (gF X 7 0 2) ∧ (gF X 7 0 2) ≤ 6) ∧ (∀ i, 0 ≤ i → i < (gF X 7 0 2) → ((gA Y 248 0 (i)) = (gA X 65 0 (i)) ∧ 0 ≤ (gA X 65 0 (i)) ∧ (gA X 65 0 (i)) < (gF X 2 0 2)) ∧ ((gA Y 249 0 (i)) = (gA X 66 0 (i)) ∧ 0 ≤ (gA X 66 0 (i)) ∧ (gA X 66 0 (i)) ≤ 99) ∧ (gA Y 250 0 (i)) = (gA X 67 0 (i)) ∧ 0 ≤ (gA X 67 0 (i)) ∧ (gA X 67 0 (i)) ≤ 99) ∧
  ((gF Y 12 0 77) = (gF X 7 0 16) ∧ 0 ≤ (gF X 7 0 16) ∧ (gF X 7 0 16) ≤ 6) ∧ ∀ i, 0 ≤ i → i < (gF X 7 0 16) → (gA Y 254 0 (i)) = (gA X 74 0 (i)) ∧ (gA Y 255 0 (i)) = (gA X 75 0 (i))
def IBridge (X Y : PH) : Prop :=
  (∀ r, 0 ≤ r → r < 2 → ((gA Y 257 0 (r)) = (gA X 22 0 (r)) ∧ 0 ≤ (gA X 22 0 (r)) ∧ (gA X 22 0 (r)) ≤ 10) ∧ ∀ i, 0 ≤ i → i < (gA X 22 0 (r)) → (gA Y 256 0 (10 * r + i)) = (gA X 21 (r) (i)) ∧ 1 ≤ (gA X 21 (r) (i)) ∧ (gA X 21 (r) (i)) ≤ 9) ∧
  ((gF Y 12 0 87) = (gF X 0 0 8) ∧ 0 ≤ (gF X 0 0 8) ∧ (gF X 0 0 8) ≤ 180) ∧ ∀ m, 0 ≤ m → m < (gF X 0 0 8) → (gA Y 259 0 (m)) = (gA X 29 0 (m))
def ISought (X Y : PH) : Prop :=
  ((gF Y 12 0 91) = (gF X 1 0 13) ∧ 0 ≤ (gF X 1 0 13) ∧ (gF X 1 0 13) ≤ 5) ∧ (∀ i, 0 ≤ i → i < (gF X 1 0 13) → (gA Y 260 0 (i)) = (gA X 36 0 (i)) ∧ (gA Y 261 0 (i)) = (gA X 37 0 (i)) ∧ (gA Y 262 0 (i)) = (gA X 38 0 (i))) ∧
  ((gF Y 12 0 93) = (gF X 1 0 15) ∧ 0 ≤ (gF X 1 0 15) ∧ (gF X 1 0 15) ≤ 150) ∧ ∀ i, 0 ≤ i → i < (gF X 1 0 15) → (gA Y 263 0 (i)) = (gA X 39 0 (i))
def IRound (X Y : PH) : Prop :=
  ((gF Y 12 0 96) = (gF X 6 0 2) ∧ 0 ≤ (gF X 6 0 2) ∧ (gF X 6 0 2) ≤ 6) ∧ (∀ i, 0 ≤ i → i < (gF X 6 0 2) → ((gA Y 264 0 (i)) = (gA X 60 0 (i)) ∧ 0 ≤ (gA X 60 0 (i)) ∧ (gA X 60 0 (i)) ≤ 99) ∧ (gA Y 265 0 (i)) = (gA X 61 0 (i)) ∧ 0 ≤ (gA X 61 0 (i)) ∧ (gA X 61 0 (i)) ≤ 99) ∧
  ((gF Y 12 0 98) = (gF X 6 0 4) ∧ 0 ≤ (gF X 6 0 4) ∧ (gF X 6 0 4) ≤ 4) ∧ (∀ i, 0 ≤ i → i < (gF X 6 0 4) → (gA Y 266 0 (i)) = (gA X 62 0 (i))) ∧
  ((gF Y 12 0 101) = (gF X 6 0 8) ∧ 0 ≤ (gF X 6 0 8) ∧ (gF X 6 0 8) ≤ 6) ∧ ∀ i, 0 ≤ i → i < (gF X 6 0 8) → (gA Y 268 0 (i)) = (gA X 64 0 (i))
def ITrace (X Y : PH) : Prop :=
  (0 ≤ (gF Y 12 0 104) ∧ (gF X 1 0 17) = min (gF Y 12 0 104) 24) ∧ ∀ i, 0 ≤ i → i < (gF X 1 0 17) → (gA Y 269 0 (i)) = (gA X 40 0 (i))
/-- who is in a camp, or on the way to one, is of its side -/
def sideOk (X : PH) (i : Int) : Prop := ((gF X 3 (i) 8) = 0 → (gA X 41 0 ((gF X 3 (i) 10))) = (gF X 3 (i) 2)) ∧ ((gF X 3 (i) 8) = 1 → (gF X 3 (i) 10) < 16 → (gA X 41 0 ((gF X 3 (i) 10))) = (gF X 3 (i) 2))
def ISide (X _Y : PH) : Prop := ∀ i, 0 ≤ i → i < (gF X 1 0 1) → sideOk X i
theorem ISide_one {X Y X1 Y1 : PH} {p : Int} (h : ISide X Y) (es : (gF X1 1 0 1) = (gF X 1 0 1)) (el : gA X1 41 0 = gA X 41 0) (ho : ∀ i, i ≠ p → (gF X1 3 (i) 8) = (gF X 3 (i) 8) ∧ (gF X1 3 (i) 10) = (gF X 3 (i) 10) ∧ (gF X1 3 (i) 2) = (gF X 3 (i) 2)) (hp : sideOk X1 p) : ISide X1 Y1 := by
  intro i a b
  rw [es] at b
  by_cases e : i = p
  · rw [e]; exact hp
  · have h1 := h i a b
    have h2 := ho i e
    unfold sideOk at h1 ⊢
    rw [h2.1, h2.2.1, h2.2.2, el]
    exact h1
def Inv (np : Nat) (X Y : PH) : Prop := ILand X Y ∧ IPers np 150 X Y ∧ IStay X Y ∧ IFact X Y ∧ IProm X Y ∧ ITape X Y ∧ IText X Y ∧ IRow X Y ∧ ITab X Y ∧ ITrade X Y ∧ IShip X Y ∧ IBridge X Y ∧ ISought X Y ∧ IRound X Y ∧ ITrace X Y ∧ ISide X Y
