/-! a program logic over the machine: numbers as whole numbers, the cells made since the law began as a function of number and place -/
abbrev MV : Type := Nat × Int
abbrev mI (x : Int) : MV := (0, x)
abbrev mL (x : Int) : MV := (1, x)
abbrev mR (a : Nat) : MV := (2, (a : Int))
abbrev mX (a : Nat) : MV := (3, (a : Int))
abbrev Mm : Type := Nat → Nat → Int
abbrev Shp : Type := List (Nat × Nat)
/-- numbers of the classes, places of their fields, numbers of the array classes, the launch, the state at the law's entry, the written texts -/
abbrev Gw : Type := (Nat → ClassId) × (Nat → Nat → Nat) × (Nat → ClassId) × Launch × State × (Nat → Nat) × (Nat → Nat)
abbrev gL (g : Gw) : Launch := g.2.2.2.1
abbrev gS (g : Gw) : State := g.2.2.2.2.1
/-- the written texts: where each lies, where its bytes lie -/
abbrev gT (g : Gw) : Nat → Nat := g.2.2.2.2.2.1
abbrev gV (g : Gw) : Nat → Nat := g.2.2.2.2.2.2
def gB (g : Gw) : Nat := (gS g).heap.size
def gA (g : Gw) : Nat → Prop := fun q => gB g ≤ q
def rvv (B : Nat) (v : MV) : Value := match v.1 with
  | 0 => .int (Int32.ofInt v.2)
  | 1 => .long (Int64.ofInt v.2)
  | 2 => if v.2 < 0 then .null else .ref (B + v.2.toNat)
  | _ => .ref v.2.toNat
def okv (v : MV) : Prop := match v.1 with
  | 0 => -2147483648 ≤ v.2 ∧ v.2 < 2147483648
  | 1 => -9223372036854775808 ≤ v.2 ∧ v.2 < 9223372036854775808
  | _ => True
def nFs (c : Nat) : Nat := (ftL.getD c []).length
def etag (k : Nat) : Nat := if k ≤ 2 then 0 else if k = 3 then 1 else 2
def stag (kd : Nat × Nat) (j : Nat) : Nat := if kd.1 < 7 then etag kd.1 else (ftL.getD (kd.1 - 7) []).getD j 0
def slen (kd : Nat × Nat) : Nat := if kd.1 < 7 then kd.2 else nFs (kd.1 - 7)
/-- the cell at ad is of the kind kd and holds f: 0 int[], 1 byte[], 2 boolean[], 3 long[], 4 Image[], 5 int[][], 6 long[][], 7 + c an object of class c -/
def cellAt (g : Gw) (kd : Nat × Nat) (f : Nat → Int) (ad : Nat) (H : Heap) : Prop :=
  if kd.1 < 7 then H[ad]? = some (arrV (g.2.2.1 kd.1) kd.2 (fun j => rvv (gB g) (etag kd.1, f j)))
  else t_OB ad (g.1 (kd.1 - 7)) (nFs (kd.1 - 7)) (g.2.1 (kd.1 - 7)) H (fun j => rvv (gB g) (stag kd j, f j))
def okc (kd : Nat × Nat) (f : Nat → Int) : Prop := ∀ j, j < slen kd → okv (stag kd j, f j)
def HD (g : Gw) (K : Shp) (z : Bool) (D : Mm) (H : Heap) : Prop :=
  (∀ (a : Nat) (kd : Nat × Nat), K[a]? = some kd → cellAt g kd (D a) (gB g + a) H ∧ okc kd (D a)) ∧ (z = true → H.size = gB g + K.length) ∧ (∀ q : Nat, q < gB g → H[q]? = (gS g).heap[q]?) ∧ gB g ≤ H.size
def tysG (g : Gw) : List (ClassId × FieldType) := [(g.2.2.1 0, .int), (g.2.2.1 1, .byte), (g.2.2.1 2, .boolean), (g.2.2.1 3, .long), (g.2.2.1 4, .object "ShadeBeams$Image"), (g.2.2.1 5, .array .int), (g.2.2.1 6, .array .long)]
/-- the written texts: class, entry, text -/
def STRL : List (String × Nat × String) := [("ShadeBeams$Street", 114, "wide"), ("ShadeBeams$Street", 119, "post"), ("ShadeBeams$Street", 121, "sun"), ("ShadeBeams$Street", 123, "dusk"), ("ShadeBeams$Street", 124, "moon"), ("ShadeBeams$Street", 126, "cloud"), ("ShadeBeams$Street", 128, "lamp"), ("ShadeBeams$Street", 130, "beam"), ("ShadeBeams$Street", 132, "load"), ("ShadeBeams$Law", 83, "shades"), ("ShadeBeams$Law", 89, "tall"), ("ShadeBeams$Law", 91, "hour"), ("ShadeBeams$Law", 93, "lamp"), ("ShadeBeams$Law", 95, "least"), ("ShadeBeams$Law", 97, "most"), ("ShadeBeams", 491, "an argument is none such"), ("ShadeBeams", 484, "no such post"), ("ShadeBeams", 487, "no such beam"), ("ShadeBeams", 477, "no such cell")]
/-- the signs of the first fifteen -/
def STRB : List (List Int) := [[119, 105, 100, 101], [112, 111, 115, 116], [115, 117, 110], [100, 117, 115, 107], [109, 111, 111, 110], [99, 108, 111, 117, 100], [108, 97, 109, 112], [98, 101, 97, 109], [108, 111, 97, 100], [115, 104, 97, 100, 101, 115], [116, 97, 108, 108], [104, 111, 117, 114], [108, 97, 109, 112], [108, 101, 97, 115, 116], [109, 111, 115, 116]]
/-- what lies in the cells that the law finds, of the texts and of statics -/
def OldF (g : Gw) (U : State) (H : Heap) : Prop :=
  (∀ (i : Nat) (b : List Int), STRB[i]? = some b → va_O "java/lang/String" (gT g i) (gA g) U H ∧ va_OF "java/lang/String" "coder" "B" (.int 0) (gT g i) (gA g) U H ∧ va_OF "java/lang/String" "value" "[B" (.ref (gV g i)) (gT g i) (gA g) U H ∧ va_T .byte (gV g i) b.length (fun j => .int (Int32.ofInt (b.getD j 0))) (gA g) U H) ∧
  va_Z "java/lang/String" "COMPACT_STRINGS" "Z" (.int 1) (gA g) U H ∧ va_Zq "jdk/internal/util/Preconditions" "SIOOBE_FORMATTER" "Ljava/util/function/BiFunction;" (gA g) U H ∧
  vx_Zq Bundle.tN "UNASSIGNED_STACK" Bundle.steD (gA g) U H ∧ vx_Zq Bundle.tN "SUPPRESSED_SENTINEL" Bundle.listD (gA g) U H
def exN : List String := ["java/lang/IndexOutOfBoundsException", "java/util/NoSuchElementException", "java/lang/IllegalArgumentException"]
/-- what the law's entry gives of the tables -/
def GF (g : Gw) : Prop := va_K (g.1, g.2.1) vwCl (tysG g) (gS g) ∧ (gL g).stackTraces = false ∧ OldF g (gS g) (gS g).heap ∧ (∀ E ∈ exN, ∀ F ∈ exN, E ≠ F → va_Nc E F (gS g)) ∧ va_AO "ShadeBeams$Image" (gS g) ∧ (Cond.arrayOver (.array .int)).before #[] (gS g) = true ∧ (Cond.arrayOver (.array .long)).before #[] (gS g) = true
/-- words that each call hands on by rows of their own -/
def PWS (g : Gw) (U : State) : Prop := (∀ w ∈ NESTW, va_Nw w U) ∧ ∀ (i : Nat) (q : String × Nat × String), STRL[i]? = some q → vk_R q.1 q.2.1 q.2.2 (gT g i) U
/-- one invocation -/
abbrev Kp : Type := Program × Env × Room × State × MethodId × Array Value × List Frame × Method × Code × (State → Prop)
abbrev kR (κ : Kp) : Room := κ.2.2.1
abbrev kS (κ : Kp) : State := κ.2.2.2.1
abbrev kM (κ : Kp) : MethodId := κ.2.2.2.2.1
abbrev kA (κ : Kp) : Array Value := κ.2.2.2.2.2.1
abbrev kB (κ : Kp) : List Frame := κ.2.2.2.2.2.2.1
abbrev kH (κ : Kp) : Method := κ.2.2.2.2.2.2.2.1
abbrev kC (κ : Kp) : Code := κ.2.2.2.2.2.2.2.2.1
abbrev kQ (κ : Kp) : State → Prop := κ.2.2.2.2.2.2.2.2.2
def rvl (B : Nat) (l : List (Nat × MV)) : List (Nat × Value) := l.map fun q => (q.1, rvv B q.2)
/-- the machine, now in this invocation at pc with these locals and this stack, with the cells as D has them, comes to its end -/
def AT (g : Gw) (κ : Kp) (K : Shp) (z : Bool) (cells slots pc : Nat) (l : List (Nat × MV)) (st : List MV) (D : Mm) : Prop :=
  ∀ (H : Heap) (ls : Array Slot) (locs : List Loc), lv_has ls (kC κ).maxLocals (rvl (gB g) l) → (∀ q ∈ l, okv q.2) → (∀ v ∈ st, okv v) → HD g K z D H → va_S (gA g) (kS κ).heap H locs →
    W κ.1 (gL g) κ.2.1 (kR κ) (kS κ) (kM κ) (kA κ) (kB κ) (kH κ) (kC κ) H locs cells slots (kQ κ) (F0 (kM κ) pc ls (st.map (rvv (gB g))))
/-- what is known in an invocation of a method with these bytes -/
def CX (g : Gw) (κ : Kp) (cc : ByteArray) (own : String) (nL : Nat) : Prop :=
  κ.1.tables.exec = Jvm.exec ∧ (kC κ).code = cc ∧ (kC κ).maxLocals = nL ∧ (kS κ).vm.findClass own = some (kM κ).cls ∧ (∀ w ∈ ALLW, w.before (kA κ) (kS κ) = true) ∧ (kH κ).locks = false ∧ (gS g).vm.Alike (kS κ).vm ∧ GF g ∧ (∀ q : Nat, q < gB g → (kS κ).heap[q]? = (gS g).heap[q]?) ∧ gB g ≤ (kS κ).heap.size ∧ PWS g (kS κ)
def lget : List (Nat × MV) → Nat → Option MV
  | [], _ => none
  | (j, v) :: t, i => bif Nat.beq j i then some v else lget t i
def lrem (i : Nat) : List (Nat × MV) → List (Nat × MV)
  | [] => []
  | (j, v) :: t => bif Nat.beq j i || (Nat.beq (j + 1) i && Nat.beq v.1 1) then lrem i t else (j, v) :: lrem i t
def lrem2 (i : Nat) : List (Nat × MV) → List (Nat × MV)
  | [] => []
  | (j, v) :: t => bif Nat.beq j i || (Nat.beq j (i + 1) || (Nat.beq (j + 1) i && Nat.beq v.1 1)) then lrem2 i t else (j, v) :: lrem2 i t
def lset (i : Nat) (v : MV) (l : List (Nat × MV)) : List (Nat × MV) := (i, v) :: lrem i l
def lset2 (i : Nat) (v : MV) (l : List (Nat × MV)) : List (Nat × MV) := (i, v) :: lrem2 i l
def lsub : List (Nat × MV) → List (Nat × MV) → Prop
  | [], _ => True
  | (i, v) :: t, l => lget l i = some v ∧ lsub t l
def wr (D : Mm) (a k : Nat) (x : Int) : Mm := fun b j => if b = a ∧ j = k then x else D b j
def w32 (z : Int) : Int := (z + 2147483648) % 4294967296 - 2147483648
def w64 (z : Int) : Int := (z + 9223372036854775808) % 18446744073709551616 - 9223372036854775808
def iand (x y : Int) : Int := (Int32.ofInt x &&& Int32.ofInt y).toInt
def ior (x y : Int) : Int := (Int32.ofInt x ||| Int32.ofInt y).toInt
def ixor (x y : Int) : Int := (Int32.ofInt x ^^^ Int32.ofInt y).toInt
def ishl (x y : Int) : Int := (Int32.ofInt x <<< (Int32.ofInt y &&& 31)).toInt
def ishr (x y : Int) : Int := (Int32.ofInt x >>> (Int32.ofInt y &&& 31)).toInt
def iushr (x y : Int) : Int := ((Int32.ofInt x).toUInt32 >>> ((Int32.ofInt y).toUInt32 &&& Int32.toUInt32 31)).toInt32.toInt
def land (x y : Int) : Int := (Int64.ofInt x &&& Int64.ofInt y).toInt
def lor (x y : Int) : Int := (Int64.ofInt x ||| Int64.ofInt y).toInt
def lxor (x y : Int) : Int := (Int64.ofInt x ^^^ Int64.ofInt y).toInt
def lshl (x y : Int) : Int := (Int64.ofInt x <<< ((Int32.ofInt y).toInt64 &&& 63)).toInt
def lshr (x y : Int) : Int := (Int64.ofInt x >>> ((Int32.ofInt y).toInt64 &&& 63)).toInt
def lushr (x y : Int) : Int := ((Int64.ofInt x).toUInt64 >>> ((Int32.ofInt y).toInt64.toUInt64 &&& Int64.toUInt64 63)).toInt64.toInt
def l2i (x : Int) : Int := w32 x
def i2b (x : Int) : Int := (x + 128) % 256 - 128
def lcmpI (x y : Int) : Int := if x > y then 1 else if x = y then 0 else -1
theorem ri (x : Int32) : -2147483648 ≤ x.toInt ∧ x.toInt < 2147483648 := by
  have h1 := Int32.le_toInt x
  have h2 := Int32.toInt_lt x
  omega
theorem rl (x : Int64) : -9223372036854775808 ≤ x.toInt ∧ x.toInt < 9223372036854775808 := by
  have h1 := Int64.le_toInt x
  have h2 := Int64.toInt_lt x
  omega
theorem w32_ok (z : Int) : -2147483648 ≤ w32 z ∧ w32 z < 2147483648 := by unfold w32; omega
theorem w64_ok (z : Int) : -9223372036854775808 ≤ w64 z ∧ w64 z < 9223372036854775808 := by unfold w64; omega
theorem w32_id {z : Int} (h1 : -2147483648 ≤ z) (h2 : z < 2147483648) : w32 z = z := by unfold w32; omega
theorem w64_id {z : Int} (h1 : -9223372036854775808 ≤ z) (h2 : z < 9223372036854775808) : w64 z = z := by unfold w64; omega
theorem bm32 (z : Int) : z.bmod (2 ^ 32) = w32 z := by
  unfold w32
  rw [Int.bmod_def]
  split <;> omega
theorem bm64 (z : Int) : z.bmod (2 ^ 64) = w64 z := by
  unfold w64
  rw [Int.bmod_def]
  split <;> omega
theorem ti (z : Int) : (Int32.ofInt z).toInt = w32 z := by rw [Int32.toInt_ofInt]; exact bm32 z
theorem tl (z : Int) : (Int64.ofInt z).toInt = w64 z := by rw [Int64.toInt_ofInt]; exact bm64 z
theorem ti' {z : Int} (h1 : -2147483648 ≤ z) (h2 : z < 2147483648) : (Int32.ofInt z).toInt = z := by rw [ti, w32_id h1 h2]
theorem tl' {z : Int} (h1 : -9223372036854775808 ≤ z) (h2 : z < 9223372036854775808) : (Int64.ofInt z).toInt = z := by rw [tl, w64_id h1 h2]
theorem oi (x : Int32) : Int32.ofInt x.toInt = x := Int32.ofInt_toInt x
theorem ol (x : Int64) : Int64.ofInt x.toInt = x := Int64.ofInt_toInt x
theorem oi_w (z : Int) : Int32.ofInt (w32 z) = Int32.ofInt z := by rw [← ti, oi]
theorem ol_w (z : Int) : Int64.ofInt (w64 z) = Int64.ofInt z := by rw [← tl, ol]
theorem ei_add (x y : Int) : Int32.ofInt x + Int32.ofInt y = Int32.ofInt (w32 (x + y)) := by rw [oi_w, Int32.ofInt_add]
theorem ei_sub (x y : Int) : Int32.ofInt x - Int32.ofInt y = Int32.ofInt (w32 (x - y)) := by rw [oi_w, Int32.ofInt_sub]
theorem ei_mul (x y : Int) : Int32.ofInt x * Int32.ofInt y = Int32.ofInt (w32 (x * y)) := by rw [oi_w, Int32.ofInt_mul]
theorem ei_neg (x : Int) : -Int32.ofInt x = Int32.ofInt (w32 (-x)) := by rw [oi_w, Int32.ofInt_neg]
theorem el_add (x y : Int) : Int64.ofInt x + Int64.ofInt y = Int64.ofInt (w64 (x + y)) := by rw [ol_w, Int64.ofInt_add]
theorem el_sub (x y : Int) : Int64.ofInt x - Int64.ofInt y = Int64.ofInt (w64 (x - y)) := by rw [ol_w, Int64.ofInt_sub]
theorem el_mul (x y : Int) : Int64.ofInt x * Int64.ofInt y = Int64.ofInt (w64 (x * y)) := by rw [ol_w, Int64.ofInt_mul]
theorem el_neg (x : Int) : -Int64.ofInt x = Int64.ofInt (w64 (-x)) := by rw [ol_w, Int64.ofInt_neg]
theorem ei_div {x y : Int} (h1 : -2147483648 ≤ x ∧ x < 2147483648) (h2 : -2147483648 ≤ y ∧ y < 2147483648) : Int32.ofInt x / Int32.ofInt y = Int32.ofInt (w32 (x.tdiv y)) := by
  apply Int32.toInt_inj.mp
  rw [Int32.toInt_div, ti' h1.1 h1.2, ti' h2.1 h2.2, bm32, ti, w32_id (w32_ok _).1 (w32_ok _).2]
theorem el_div {x y : Int} (h1 : -9223372036854775808 ≤ x ∧ x < 9223372036854775808) (h2 : -9223372036854775808 ≤ y ∧ y < 9223372036854775808) : Int64.ofInt x / Int64.ofInt y = Int64.ofInt (w64 (x.tdiv y)) := by
  apply Int64.toInt_inj.mp
  rw [Int64.toInt_div, tl' h1.1 h1.2, tl' h2.1 h2.2, bm64, tl, w64_id (w64_ok _).1 (w64_ok _).2]
theorem ei_rem {x y : Int} (h1 : -2147483648 ≤ x ∧ x < 2147483648) (h2 : -2147483648 ≤ y ∧ y < 2147483648) : Int32.ofInt x - Int32.ofInt x / Int32.ofInt y * Int32.ofInt y = Int32.ofInt (w32 (x.tmod y)) := by
  rw [ei_div h1 h2, oi_w, ← Int32.ofInt_mul, ← Int32.ofInt_sub, oi_w, Int.tmod_def, Int.mul_comm]
theorem el_rem {x y : Int} (h1 : -9223372036854775808 ≤ x ∧ x < 9223372036854775808) (h2 : -9223372036854775808 ≤ y ∧ y < 9223372036854775808) : Int64.ofInt x - Int64.ofInt x / Int64.ofInt y * Int64.ofInt y = Int64.ofInt (w64 (x.tmod y)) := by
  rw [el_div h1 h2, ol_w, ← Int64.ofInt_mul, ← Int64.ofInt_sub, ol_w, Int.tmod_def, Int.mul_comm]
theorem ei_eq {x y : Int} (h1 : -2147483648 ≤ x ∧ x < 2147483648) (h2 : -2147483648 ≤ y ∧ y < 2147483648) : Int32.ofInt x = Int32.ofInt y ↔ x = y := by
  rw [← Int32.toInt_inj, ti' h1.1 h1.2, ti' h2.1 h2.2]
theorem ei_lt {x y : Int} (h1 : -2147483648 ≤ x ∧ x < 2147483648) (h2 : -2147483648 ≤ y ∧ y < 2147483648) : Int32.ofInt x < Int32.ofInt y ↔ x < y := by
  rw [Int32.lt_iff_toInt_lt, ti' h1.1 h1.2, ti' h2.1 h2.2]
theorem ei_le {x y : Int} (h1 : -2147483648 ≤ x ∧ x < 2147483648) (h2 : -2147483648 ≤ y ∧ y < 2147483648) : Int32.ofInt x ≤ Int32.ofInt y ↔ x ≤ y := by
  rw [Int32.le_iff_toInt_le, ti' h1.1 h1.2, ti' h2.1 h2.2]
theorem el_eq {x y : Int} (h1 : -9223372036854775808 ≤ x ∧ x < 9223372036854775808) (h2 : -9223372036854775808 ≤ y ∧ y < 9223372036854775808) : Int64.ofInt x = Int64.ofInt y ↔ x = y := by
  rw [← Int64.toInt_inj, tl' h1.1 h1.2, tl' h2.1 h2.2]
theorem el_lt {x y : Int} (h1 : -9223372036854775808 ≤ x ∧ x < 9223372036854775808) (h2 : -9223372036854775808 ≤ y ∧ y < 9223372036854775808) : Int64.ofInt x < Int64.ofInt y ↔ x < y := by
  rw [Int64.lt_iff_toInt_lt, tl' h1.1 h1.2, tl' h2.1 h2.2]
theorem o0 : (0 : Int32) = Int32.ofInt 0 := rfl
theorem ol0 : (0 : Int64) = Int64.ofInt 0 := rfl
theorem r0 : -2147483648 ≤ (0 : Int) ∧ (0 : Int) < 2147483648 := by decide
theorem rl0 : -9223372036854775808 ≤ (0 : Int) ∧ (0 : Int) < 9223372036854775808 := by decide
theorem e_cmp {x y : Int} (h1 : -9223372036854775808 ≤ x ∧ x < 9223372036854775808) (h2 : -9223372036854775808 ≤ y ∧ y < 9223372036854775808) : lg_cmp (Int64.ofInt x) (Int64.ofInt y) = Int32.ofInt (lcmpI x y) := by
  unfold lg_cmp lcmpI
  by_cases a : y < x
  · rw [if_pos (show Int64.ofInt x > Int64.ofInt y from (el_lt h2 h1).mpr a), if_pos a]; rfl
  · rw [if_neg (fun q => a ((el_lt h2 h1).mp q)), if_neg a]
    by_cases b : x = y
    · rw [if_pos (by rw [b]), if_pos b]; rfl
    · rw [if_neg (fun q => b ((el_eq h1 h2).mp q)), if_neg b]; rfl
theorem lcmpI_ok (x y : Int) : -2147483648 ≤ lcmpI x y ∧ lcmpI x y < 2147483648 := by
  unfold lcmpI
  split
  · omega
  · split <;> omega
theorem e_i2l {x : Int} (h1 : -2147483648 ≤ x ∧ x < 2147483648) : (Int32.ofInt x).toInt64 = Int64.ofInt x := by
  apply Int64.toInt_inj.mp
  rw [Int32.toInt_toInt64, ti' h1.1 h1.2, tl' (by omega) (by omega)]
theorem e_l2i (x : Int) : (Int64.ofInt x).toInt32 = Int32.ofInt (w32 x) := by
  rw [oi_w]
  apply Int32.toInt_inj.mp
  rw [Int64.toInt_toInt32, tl, ti, bm32]
  unfold w32 w64
  omega
theorem e_i2b (x : Int) : (Int32.ofInt x).toInt8.toInt32 = Int32.ofInt (i2b x) := by
  apply Int32.toInt_inj.mp
  rw [Int8.toInt_toInt32, Int32.toInt_toInt8, ti, ti' (by unfold i2b; omega) (by unfold i2b; omega), Int.bmod_def]
  unfold i2b w32
  split <;> omega
theorem lget_mem : ∀ {l : List (Nat × MV)} {i : Nat} {v : MV}, lget l i = some v → (i, v) ∈ l
  | [], _, _, h => by cases h
  | (j, w) :: t, i, v, h => by
    unfold lget at h
    cases hb : Nat.beq j i with
    | true =>
      rw [hb] at h
      simp only [cond_true] at h
      cases h
      rw [Nat.eq_of_beq_eq_true hb]
      exact List.mem_cons_self
    | false =>
      rw [hb] at h
      simp only [cond_false] at h
      exact List.mem_cons_of_mem _ (lget_mem h)
theorem lget_at {B nL : Nat} {ls : Array Slot} {l : List (Nat × MV)} {i : Nat} {v : MV} (hl : lv_has ls nL (rvl B l)) (h : lget l i = some v) : ls[i]? = some (.val (rvv B v)) :=
  hl.2.2 (i, rvv B v) (List.mem_map.mpr ⟨(i, v), lget_mem h, rfl⟩)
theorem lget_ok {l : List (Nat × MV)} {i : Nat} {v : MV} (h : lget l i = some v) (ok : ∀ q ∈ l, okv q.2) : okv v := ok (i, v) (lget_mem h)
theorem lrem_mem : ∀ {i : Nat} {l : List (Nat × MV)} {q : Nat × MV}, q ∈ lrem i l → q ∈ l ∧ ¬ q.1 = i ∧ ¬ (q.1 + 1 = i ∧ q.2.1 = 1)
  | _, [], _, h => by cases h
  | i, (j, v) :: t, q, h => by
    unfold lrem at h
    cases hb : (Nat.beq j i || (Nat.beq (j + 1) i && Nat.beq v.1 1)) with
    | true =>
      rw [hb] at h
      obtain ⟨a, b⟩ := lrem_mem (show q ∈ lrem i t from h)
      exact ⟨List.mem_cons_of_mem _ a, b⟩
    | false =>
      rw [hb] at h
      rcases List.mem_cons.mp (show q ∈ (j, v) :: lrem i t from h) with rfl | h
      · refine ⟨List.mem_cons_self, fun e => ?_, fun e => ?_⟩
        · rw [show Nat.beq j i = true from Nat.beq_eq ▸ e] at hb; cases hb
        · rw [show Nat.beq (j + 1) i = true from Nat.beq_eq ▸ e.1, show Nat.beq v.1 1 = true from Nat.beq_eq ▸ e.2] at hb
          simp at hb
      · obtain ⟨a, b⟩ := lrem_mem h
        exact ⟨List.mem_cons_of_mem _ a, b⟩
theorem lrem2_mem : ∀ {i : Nat} {l : List (Nat × MV)} {q : Nat × MV}, q ∈ lrem2 i l → q ∈ l ∧ ¬ q.1 = i ∧ ¬ q.1 = i + 1 ∧ ¬ (q.1 + 1 = i ∧ q.2.1 = 1)
  | _, [], _, h => by cases h
  | i, (j, v) :: t, q, h => by
    unfold lrem2 at h
    cases hb : (Nat.beq j i || (Nat.beq j (i + 1) || (Nat.beq (j + 1) i && Nat.beq v.1 1))) with
    | true =>
      rw [hb] at h
      obtain ⟨a, b⟩ := lrem2_mem (show q ∈ lrem2 i t from h)
      exact ⟨List.mem_cons_of_mem _ a, b⟩
    | false =>
      rw [hb] at h
      rcases List.mem_cons.mp (show q ∈ (j, v) :: lrem2 i t from h) with rfl | h
      · refine ⟨List.mem_cons_self, fun e => ?_, fun e => ?_, fun e => ?_⟩
        · rw [show Nat.beq j i = true from Nat.beq_eq ▸ e] at hb; cases hb
        · rw [show Nat.beq j (i + 1) = true from Nat.beq_eq ▸ e] at hb; simp at hb
        · rw [show Nat.beq (j + 1) i = true from Nat.beq_eq ▸ e.1, show Nat.beq v.1 1 = true from Nat.beq_eq ▸ e.2] at hb
          simp at hb
      · obtain ⟨a, b⟩ := lrem2_mem h
        exact ⟨List.mem_cons_of_mem _ a, b⟩
theorem rvv_ref (B a : Nat) : rvv B (mR a) = .ref (B + a) := by
  show (if ((a : Nat) : Int) < 0 then Value.null else Value.ref (B + ((a : Nat) : Int).toNat)) = _
  rw [if_neg (by omega), Int.toNat_natCast]
theorem rvv_cat (B : Nat) (v : MV) : (rvv B v).category = if v.1 = 1 then 2 else 1 := by
  obtain ⟨t, x⟩ := v
  match t with
  | 0 => rfl
  | 1 => rfl
  | 2 =>
    show (if x < 0 then Value.null else Value.ref (B + x.toNat)).category = _
    split <;> rfl
  | n + 3 => simp [rvv, Value.category]
theorem lset_has {B nL : Nat} {ls : Array Slot} {l : List (Nat × MV)} {i : Nat} {v : MV} (h : lv_has ls nL ((i, rvv B v) :: (rvl B l).filter (fun q => !(q.1 == i) && !(q.1 + 1 == i && q.2.category == 2)))) : lv_has ls nL (rvl B (lset i v l)) := by
  refine ⟨h.1, h.2.1, fun q hq => ?_⟩
  obtain ⟨q0, hq0, rfl⟩ := List.mem_map.mp hq
  rcases List.mem_cons.mp hq0 with rfl | hq0
  · exact h.2.2 _ List.mem_cons_self
  · obtain ⟨h1, h2, h3⟩ := lrem_mem hq0
    refine h.2.2 _ (List.mem_cons_of_mem _ (List.mem_filter.mpr ⟨List.mem_map.mpr ⟨q0, h1, rfl⟩, ?_⟩))
    have h4 : ¬ (q0.1 + 1 = i ∧ (rvv B q0.2).category = 2) := by
      rintro ⟨e1, e2⟩
      rw [rvv_cat] at e2
      by_cases c : q0.2.1 = 1
      · exact h3 ⟨e1, c⟩
      · rw [if_neg c] at e2; cases e2
    simp only [Bool.and_eq_true, Bool.not_eq_true', beq_eq_false_iff_ne, ne_eq, Bool.and_eq_false_iff]
    refine ⟨h2, ?_⟩
    by_cases c : q0.1 + 1 = i
    · exact Or.inr (fun e => h4 ⟨c, e⟩)
    · exact Or.inl c
theorem lset2_has {B nL : Nat} {ls : Array Slot} {l : List (Nat × MV)} {i : Nat} {v : MV} (h : lv_has ls nL ((i, rvv B v) :: (rvl B l).filter (fun q => !(q.1 == i) && (!(q.1 == i + 1) && !(q.1 + 1 == i && q.2.category == 2))))) : lv_has ls nL (rvl B (lset2 i v l)) := by
  refine ⟨h.1, h.2.1, fun q hq => ?_⟩
  obtain ⟨q0, hq0, rfl⟩ := List.mem_map.mp hq
  rcases List.mem_cons.mp hq0 with rfl | hq0
  · exact h.2.2 _ List.mem_cons_self
  · obtain ⟨h1, h2, h2b, h3⟩ := lrem2_mem hq0
    refine h.2.2 _ (List.mem_cons_of_mem _ (List.mem_filter.mpr ⟨List.mem_map.mpr ⟨q0, h1, rfl⟩, ?_⟩))
    have h4 : ¬ (q0.1 + 1 = i ∧ (rvv B q0.2).category = 2) := by
      rintro ⟨e1, e2⟩
      rw [rvv_cat] at e2
      by_cases c : q0.2.1 = 1
      · exact h3 ⟨e1, c⟩
      · rw [if_neg c] at e2; cases e2
    simp only [Bool.and_eq_true, Bool.not_eq_true', beq_eq_false_iff_ne, ne_eq, Bool.and_eq_false_iff]
    refine ⟨h2, h2b, ?_⟩
    by_cases c : q0.1 + 1 = i
    · exact Or.inr (fun e => h4 ⟨c, e⟩)
    · exact Or.inl c
theorem lset_ok {l : List (Nat × MV)} {i : Nat} {v : MV} (ok : ∀ q ∈ l, okv q.2) (hv : okv v) : ∀ q ∈ lset i v l, okv q.2 := fun q hq => by
  rcases List.mem_cons.mp hq with rfl | hq
  · exact hv
  · exact ok q (lrem_mem hq).1
theorem lset2_ok {l : List (Nat × MV)} {i : Nat} {v : MV} (ok : ∀ q ∈ l, okv q.2) (hv : okv v) : ∀ q ∈ lset2 i v l, okv q.2 := fun q hq => by
  rcases List.mem_cons.mp hq with rfl | hq
  · exact hv
  · exact ok q (lrem2_mem hq).1
theorem lsub_mem : ∀ {l' l : List (Nat × MV)}, lsub l' l → ∀ q ∈ l', q ∈ l
  | [], _, _, q, h => by cases h
  | (i, v) :: t, l, h, q, hq => by
    rcases List.mem_cons.mp hq with rfl | hq
    · exact lget_mem h.1
    · exact lsub_mem h.2 q hq
theorem ok_cons {v : MV} {st : List MV} (h : okv v) (hs : ∀ w ∈ st, okv w) : ∀ w ∈ v :: st, okv w := fun w hw => by
  rcases List.mem_cons.mp hw with rfl | hw
  · exact h
  · exact hs w hw
theorem ok_tl {v : MV} {st : List MV} (hs : ∀ w ∈ v :: st, okv w) : ∀ w ∈ st, okv w := fun w hw => hs w (List.mem_cons_of_mem _ hw)
theorem ok_hd {v : MV} {st : List MV} (hs : ∀ w ∈ v :: st, okv w) : okv v := hs v List.mem_cons_self
