/-! the law's entry: what the start gives -/
abbrev narL : List Cond := flatC (Jvm.Cond.and given_1 narrow_1)
/-- a text that the law's start holds -/
def TXT (own : String) (k : Nat) (b : List Int) (a v : Nat) (s : State) : Prop :=
  va_O "java/lang/String" a (fun q => s.heap.size ≤ q) s s.heap ∧ va_OF "java/lang/String" "coder" "B" (.int 0) a (fun q => s.heap.size ≤ q) s s.heap ∧ va_OF "java/lang/String" "value" "[B" (.ref v) a (fun q => s.heap.size ≤ q) s s.heap ∧ va_T .byte v b.length (fun j => .int (Int32.ofInt (b.getD j 0))) (fun q => s.heap.size ≤ q) s s.heap
theorem gd_ofInt : ∀ (b : List Int) (j : Nat), (b.map Int32.ofInt).getD j 0 = Int32.ofInt (b.getD j 0)
  | [], j => rfl
  | _ :: _, 0 => rfl
  | _ :: t, j + 1 => gd_ofInt t j
theorem old_free {s : State} : ∀ a : Nat, a < s.heap.size → ¬ (fun q => s.heap.size ≤ q) a := fun _ h => Nat.not_le.mpr h
theorem tx_0 {b : Nat} {s : State} (hg : ∀ c ∈ narL, c.before #[.ref b] s = true) : ∃ a v : Nat, TXT "ShadeBeams$Street" 114 [119, 105, 100, 101] a v s ∧ (Term.string "ShadeBeams$Street" 114).eval #[.ref b] s none [] s = some (.ref a) := by
  obtain ⟨adK, adV, h, he⟩ := vk_Sof (args := #[.ref b]) (s := s) (N := 1) (tm := fun _ => .string "ShadeBeams$Street" 114) (len := [4]) (byt := [[119, 105, 100, 101]]) (A := fun q => s.heap.size ≤ q) (fun i hi => by rw [show i = 0 by omega]; decide) (fun _ _ => (hg _ (List.mem_of_getElem? (i := 84) (by decide +kernel)))) (fun _ _ => (hg _ (List.mem_of_getElem? (i := 85) (by decide +kernel)))) (fun _ _ => (hg _ (List.mem_of_getElem? (i := 86) (by decide +kernel)))) (fun i hi => by rw [show i = 0 by omega]; exact (hg _ (List.mem_of_getElem? (i := 87) (by decide +kernel)))) (fun i hi j hj => by
      have h0 : i = 0 := by omega
      subst h0
      match j, hj with
      | 0, _ => exact (hg _ (List.mem_of_getElem? (i := 88) (by decide +kernel)))
      | 1, _ => exact (hg _ (List.mem_of_getElem? (i := 89) (by decide +kernel)))
      | 2, _ => exact (hg _ (List.mem_of_getElem? (i := 90) (by decide +kernel)))
      | 3, _ => exact (hg _ (List.mem_of_getElem? (i := 91) (by decide +kernel)))
      | j + 4, hj => exact absurd hj (by show ¬ j + 4 < 4; omega)) (fun i j hi hj e => by omega) old_free
  refine ⟨adK 0, adV 0, ⟨(h.1 0 (by decide)).1, (h.1 0 (by decide)).2.1, (h.1 0 (by decide)).2.2.1, ?_⟩, he 0 (by decide)⟩
  have e : (fun j => Value.int (Int32.ofInt (([119, 105, 100, 101] : List Int).getD j 0))) = fun j => Value.int ((([[119, 105, 100, 101]] : List (List Int32)).getD 0 []).getD j 0) := funext fun j => by
    rw [← gd_ofInt]
    rfl
  rw [e]
  exact (h.1 0 (by decide)).2.2.2
theorem tx_1 {b : Nat} {s : State} (hg : ∀ c ∈ narL, c.before #[.ref b] s = true) : ∃ a v : Nat, TXT "ShadeBeams$Street" 119 [112, 111, 115, 116] a v s ∧ (Term.string "ShadeBeams$Street" 119).eval #[.ref b] s none [] s = some (.ref a) := by
  obtain ⟨adK, adV, h, he⟩ := vk_Sof (args := #[.ref b]) (s := s) (N := 1) (tm := fun _ => .string "ShadeBeams$Street" 119) (len := [4]) (byt := [[112, 111, 115, 116]]) (A := fun q => s.heap.size ≤ q) (fun i hi => by rw [show i = 0 by omega]; decide) (fun _ _ => (hg _ (List.mem_of_getElem? (i := 93) (by decide +kernel)))) (fun _ _ => (hg _ (List.mem_of_getElem? (i := 94) (by decide +kernel)))) (fun _ _ => (hg _ (List.mem_of_getElem? (i := 95) (by decide +kernel)))) (fun i hi => by rw [show i = 0 by omega]; exact (hg _ (List.mem_of_getElem? (i := 96) (by decide +kernel)))) (fun i hi j hj => by
      have h0 : i = 0 := by omega
      subst h0
      match j, hj with
      | 0, _ => exact (hg _ (List.mem_of_getElem? (i := 97) (by decide +kernel)))
      | 1, _ => exact (hg _ (List.mem_of_getElem? (i := 98) (by decide +kernel)))
      | 2, _ => exact (hg _ (List.mem_of_getElem? (i := 99) (by decide +kernel)))
      | 3, _ => exact (hg _ (List.mem_of_getElem? (i := 100) (by decide +kernel)))
      | j + 4, hj => exact absurd hj (by show ¬ j + 4 < 4; omega)) (fun i j hi hj e => by omega) old_free
  refine ⟨adK 0, adV 0, ⟨(h.1 0 (by decide)).1, (h.1 0 (by decide)).2.1, (h.1 0 (by decide)).2.2.1, ?_⟩, he 0 (by decide)⟩
  have e : (fun j => Value.int (Int32.ofInt (([112, 111, 115, 116] : List Int).getD j 0))) = fun j => Value.int ((([[112, 111, 115, 116]] : List (List Int32)).getD 0 []).getD j 0) := funext fun j => by
    rw [← gd_ofInt]
    rfl
  rw [e]
  exact (h.1 0 (by decide)).2.2.2
theorem tx_2 {b : Nat} {s : State} (hg : ∀ c ∈ narL, c.before #[.ref b] s = true) : ∃ a v : Nat, TXT "ShadeBeams$Street" 121 [115, 117, 110] a v s ∧ (Term.string "ShadeBeams$Street" 121).eval #[.ref b] s none [] s = some (.ref a) := by
  obtain ⟨adK, adV, h, he⟩ := vk_Sof (args := #[.ref b]) (s := s) (N := 1) (tm := fun _ => .string "ShadeBeams$Street" 121) (len := [3]) (byt := [[115, 117, 110]]) (A := fun q => s.heap.size ≤ q) (fun i hi => by rw [show i = 0 by omega]; decide) (fun _ _ => (hg _ (List.mem_of_getElem? (i := 103) (by decide +kernel)))) (fun _ _ => (hg _ (List.mem_of_getElem? (i := 104) (by decide +kernel)))) (fun _ _ => (hg _ (List.mem_of_getElem? (i := 105) (by decide +kernel)))) (fun i hi => by rw [show i = 0 by omega]; exact (hg _ (List.mem_of_getElem? (i := 106) (by decide +kernel)))) (fun i hi j hj => by
      have h0 : i = 0 := by omega
      subst h0
      match j, hj with
      | 0, _ => exact (hg _ (List.mem_of_getElem? (i := 107) (by decide +kernel)))
      | 1, _ => exact (hg _ (List.mem_of_getElem? (i := 108) (by decide +kernel)))
      | 2, _ => exact (hg _ (List.mem_of_getElem? (i := 109) (by decide +kernel)))
      | j + 3, hj => exact absurd hj (by show ¬ j + 3 < 3; omega)) (fun i j hi hj e => by omega) old_free
  refine ⟨adK 0, adV 0, ⟨(h.1 0 (by decide)).1, (h.1 0 (by decide)).2.1, (h.1 0 (by decide)).2.2.1, ?_⟩, he 0 (by decide)⟩
  have e : (fun j => Value.int (Int32.ofInt (([115, 117, 110] : List Int).getD j 0))) = fun j => Value.int ((([[115, 117, 110]] : List (List Int32)).getD 0 []).getD j 0) := funext fun j => by
    rw [← gd_ofInt]
    rfl
  rw [e]
  exact (h.1 0 (by decide)).2.2.2
theorem tx_3 {b : Nat} {s : State} (hg : ∀ c ∈ narL, c.before #[.ref b] s = true) : ∃ a v : Nat, TXT "ShadeBeams$Street" 123 [100, 117, 115, 107] a v s ∧ (Term.string "ShadeBeams$Street" 123).eval #[.ref b] s none [] s = some (.ref a) := by
  obtain ⟨adK, adV, h, he⟩ := vk_Sof (args := #[.ref b]) (s := s) (N := 1) (tm := fun _ => .string "ShadeBeams$Street" 123) (len := [4]) (byt := [[100, 117, 115, 107]]) (A := fun q => s.heap.size ≤ q) (fun i hi => by rw [show i = 0 by omega]; decide) (fun _ _ => (hg _ (List.mem_of_getElem? (i := 113) (by decide +kernel)))) (fun _ _ => (hg _ (List.mem_of_getElem? (i := 114) (by decide +kernel)))) (fun _ _ => (hg _ (List.mem_of_getElem? (i := 115) (by decide +kernel)))) (fun i hi => by rw [show i = 0 by omega]; exact (hg _ (List.mem_of_getElem? (i := 116) (by decide +kernel)))) (fun i hi j hj => by
      have h0 : i = 0 := by omega
      subst h0
      match j, hj with
      | 0, _ => exact (hg _ (List.mem_of_getElem? (i := 117) (by decide +kernel)))
      | 1, _ => exact (hg _ (List.mem_of_getElem? (i := 118) (by decide +kernel)))
      | 2, _ => exact (hg _ (List.mem_of_getElem? (i := 119) (by decide +kernel)))
      | 3, _ => exact (hg _ (List.mem_of_getElem? (i := 120) (by decide +kernel)))
      | j + 4, hj => exact absurd hj (by show ¬ j + 4 < 4; omega)) (fun i j hi hj e => by omega) old_free
  refine ⟨adK 0, adV 0, ⟨(h.1 0 (by decide)).1, (h.1 0 (by decide)).2.1, (h.1 0 (by decide)).2.2.1, ?_⟩, he 0 (by decide)⟩
  have e : (fun j => Value.int (Int32.ofInt (([100, 117, 115, 107] : List Int).getD j 0))) = fun j => Value.int ((([[100, 117, 115, 107]] : List (List Int32)).getD 0 []).getD j 0) := funext fun j => by
    rw [← gd_ofInt]
    rfl
  rw [e]
  exact (h.1 0 (by decide)).2.2.2
theorem tx_4 {b : Nat} {s : State} (hg : ∀ c ∈ narL, c.before #[.ref b] s = true) : ∃ a v : Nat, TXT "ShadeBeams$Street" 124 [109, 111, 111, 110] a v s ∧ (Term.string "ShadeBeams$Street" 124).eval #[.ref b] s none [] s = some (.ref a) := by
  obtain ⟨adK, adV, h, he⟩ := vk_Sof (args := #[.ref b]) (s := s) (N := 1) (tm := fun _ => .string "ShadeBeams$Street" 124) (len := [4]) (byt := [[109, 111, 111, 110]]) (A := fun q => s.heap.size ≤ q) (fun i hi => by rw [show i = 0 by omega]; decide) (fun _ _ => (hg _ (List.mem_of_getElem? (i := 125) (by decide +kernel)))) (fun _ _ => (hg _ (List.mem_of_getElem? (i := 126) (by decide +kernel)))) (fun _ _ => (hg _ (List.mem_of_getElem? (i := 127) (by decide +kernel)))) (fun i hi => by rw [show i = 0 by omega]; exact (hg _ (List.mem_of_getElem? (i := 128) (by decide +kernel)))) (fun i hi j hj => by
      have h0 : i = 0 := by omega
      subst h0
      match j, hj with
      | 0, _ => exact (hg _ (List.mem_of_getElem? (i := 129) (by decide +kernel)))
      | 1, _ => exact (hg _ (List.mem_of_getElem? (i := 130) (by decide +kernel)))
      | 2, _ => exact (hg _ (List.mem_of_getElem? (i := 131) (by decide +kernel)))
      | 3, _ => exact (hg _ (List.mem_of_getElem? (i := 132) (by decide +kernel)))
      | j + 4, hj => exact absurd hj (by show ¬ j + 4 < 4; omega)) (fun i j hi hj e => by omega) old_free
  refine ⟨adK 0, adV 0, ⟨(h.1 0 (by decide)).1, (h.1 0 (by decide)).2.1, (h.1 0 (by decide)).2.2.1, ?_⟩, he 0 (by decide)⟩
  have e : (fun j => Value.int (Int32.ofInt (([109, 111, 111, 110] : List Int).getD j 0))) = fun j => Value.int ((([[109, 111, 111, 110]] : List (List Int32)).getD 0 []).getD j 0) := funext fun j => by
    rw [← gd_ofInt]
    rfl
  rw [e]
  exact (h.1 0 (by decide)).2.2.2
theorem tx_5 {b : Nat} {s : State} (hg : ∀ c ∈ narL, c.before #[.ref b] s = true) : ∃ a v : Nat, TXT "ShadeBeams$Street" 126 [99, 108, 111, 117, 100] a v s ∧ (Term.string "ShadeBeams$Street" 126).eval #[.ref b] s none [] s = some (.ref a) := by
  obtain ⟨adK, adV, h, he⟩ := vk_Sof (args := #[.ref b]) (s := s) (N := 1) (tm := fun _ => .string "ShadeBeams$Street" 126) (len := [5]) (byt := [[99, 108, 111, 117, 100]]) (A := fun q => s.heap.size ≤ q) (fun i hi => by rw [show i = 0 by omega]; decide) (fun _ _ => (hg _ (List.mem_of_getElem? (i := 138) (by decide +kernel)))) (fun _ _ => (hg _ (List.mem_of_getElem? (i := 139) (by decide +kernel)))) (fun _ _ => (hg _ (List.mem_of_getElem? (i := 140) (by decide +kernel)))) (fun i hi => by rw [show i = 0 by omega]; exact (hg _ (List.mem_of_getElem? (i := 141) (by decide +kernel)))) (fun i hi j hj => by
      have h0 : i = 0 := by omega
      subst h0
      match j, hj with
      | 0, _ => exact (hg _ (List.mem_of_getElem? (i := 142) (by decide +kernel)))
      | 1, _ => exact (hg _ (List.mem_of_getElem? (i := 143) (by decide +kernel)))
      | 2, _ => exact (hg _ (List.mem_of_getElem? (i := 144) (by decide +kernel)))
      | 3, _ => exact (hg _ (List.mem_of_getElem? (i := 145) (by decide +kernel)))
      | 4, _ => exact (hg _ (List.mem_of_getElem? (i := 146) (by decide +kernel)))
      | j + 5, hj => exact absurd hj (by show ¬ j + 5 < 5; omega)) (fun i j hi hj e => by omega) old_free
  refine ⟨adK 0, adV 0, ⟨(h.1 0 (by decide)).1, (h.1 0 (by decide)).2.1, (h.1 0 (by decide)).2.2.1, ?_⟩, he 0 (by decide)⟩
  have e : (fun j => Value.int (Int32.ofInt (([99, 108, 111, 117, 100] : List Int).getD j 0))) = fun j => Value.int ((([[99, 108, 111, 117, 100]] : List (List Int32)).getD 0 []).getD j 0) := funext fun j => by
    rw [← gd_ofInt]
    rfl
  rw [e]
  exact (h.1 0 (by decide)).2.2.2
theorem tx_6 {b : Nat} {s : State} (hg : ∀ c ∈ narL, c.before #[.ref b] s = true) : ∃ a v : Nat, TXT "ShadeBeams$Street" 128 [108, 97, 109, 112] a v s ∧ (Term.string "ShadeBeams$Street" 128).eval #[.ref b] s none [] s = some (.ref a) := by
  obtain ⟨adK, adV, h, he⟩ := vk_Sof (args := #[.ref b]) (s := s) (N := 1) (tm := fun _ => .string "ShadeBeams$Street" 128) (len := [4]) (byt := [[108, 97, 109, 112]]) (A := fun q => s.heap.size ≤ q) (fun i hi => by rw [show i = 0 by omega]; decide) (fun _ _ => (hg _ (List.mem_of_getElem? (i := 153) (by decide +kernel)))) (fun _ _ => (hg _ (List.mem_of_getElem? (i := 154) (by decide +kernel)))) (fun _ _ => (hg _ (List.mem_of_getElem? (i := 155) (by decide +kernel)))) (fun i hi => by rw [show i = 0 by omega]; exact (hg _ (List.mem_of_getElem? (i := 156) (by decide +kernel)))) (fun i hi j hj => by
      have h0 : i = 0 := by omega
      subst h0
      match j, hj with
      | 0, _ => exact (hg _ (List.mem_of_getElem? (i := 157) (by decide +kernel)))
      | 1, _ => exact (hg _ (List.mem_of_getElem? (i := 158) (by decide +kernel)))
      | 2, _ => exact (hg _ (List.mem_of_getElem? (i := 159) (by decide +kernel)))
      | 3, _ => exact (hg _ (List.mem_of_getElem? (i := 160) (by decide +kernel)))
      | j + 4, hj => exact absurd hj (by show ¬ j + 4 < 4; omega)) (fun i j hi hj e => by omega) old_free
  refine ⟨adK 0, adV 0, ⟨(h.1 0 (by decide)).1, (h.1 0 (by decide)).2.1, (h.1 0 (by decide)).2.2.1, ?_⟩, he 0 (by decide)⟩
  have e : (fun j => Value.int (Int32.ofInt (([108, 97, 109, 112] : List Int).getD j 0))) = fun j => Value.int ((([[108, 97, 109, 112]] : List (List Int32)).getD 0 []).getD j 0) := funext fun j => by
    rw [← gd_ofInt]
    rfl
  rw [e]
  exact (h.1 0 (by decide)).2.2.2
theorem tx_7 {b : Nat} {s : State} (hg : ∀ c ∈ narL, c.before #[.ref b] s = true) : ∃ a v : Nat, TXT "ShadeBeams$Street" 130 [98, 101, 97, 109] a v s ∧ (Term.string "ShadeBeams$Street" 130).eval #[.ref b] s none [] s = some (.ref a) := by
  obtain ⟨adK, adV, h, he⟩ := vk_Sof (args := #[.ref b]) (s := s) (N := 1) (tm := fun _ => .string "ShadeBeams$Street" 130) (len := [4]) (byt := [[98, 101, 97, 109]]) (A := fun q => s.heap.size ≤ q) (fun i hi => by rw [show i = 0 by omega]; decide) (fun _ _ => (hg _ (List.mem_of_getElem? (i := 168) (by decide +kernel)))) (fun _ _ => (hg _ (List.mem_of_getElem? (i := 169) (by decide +kernel)))) (fun _ _ => (hg _ (List.mem_of_getElem? (i := 170) (by decide +kernel)))) (fun i hi => by rw [show i = 0 by omega]; exact (hg _ (List.mem_of_getElem? (i := 171) (by decide +kernel)))) (fun i hi j hj => by
      have h0 : i = 0 := by omega
      subst h0
      match j, hj with
      | 0, _ => exact (hg _ (List.mem_of_getElem? (i := 172) (by decide +kernel)))
      | 1, _ => exact (hg _ (List.mem_of_getElem? (i := 173) (by decide +kernel)))
      | 2, _ => exact (hg _ (List.mem_of_getElem? (i := 174) (by decide +kernel)))
      | 3, _ => exact (hg _ (List.mem_of_getElem? (i := 175) (by decide +kernel)))
      | j + 4, hj => exact absurd hj (by show ¬ j + 4 < 4; omega)) (fun i j hi hj e => by omega) old_free
  refine ⟨adK 0, adV 0, ⟨(h.1 0 (by decide)).1, (h.1 0 (by decide)).2.1, (h.1 0 (by decide)).2.2.1, ?_⟩, he 0 (by decide)⟩
  have e : (fun j => Value.int (Int32.ofInt (([98, 101, 97, 109] : List Int).getD j 0))) = fun j => Value.int ((([[98, 101, 97, 109]] : List (List Int32)).getD 0 []).getD j 0) := funext fun j => by
    rw [← gd_ofInt]
    rfl
  rw [e]
  exact (h.1 0 (by decide)).2.2.2
theorem tx_8 {b : Nat} {s : State} (hg : ∀ c ∈ narL, c.before #[.ref b] s = true) : ∃ a v : Nat, TXT "ShadeBeams$Street" 132 [108, 111, 97, 100] a v s ∧ (Term.string "ShadeBeams$Street" 132).eval #[.ref b] s none [] s = some (.ref a) := by
  obtain ⟨adK, adV, h, he⟩ := vk_Sof (args := #[.ref b]) (s := s) (N := 1) (tm := fun _ => .string "ShadeBeams$Street" 132) (len := [4]) (byt := [[108, 111, 97, 100]]) (A := fun q => s.heap.size ≤ q) (fun i hi => by rw [show i = 0 by omega]; decide) (fun _ _ => (hg _ (List.mem_of_getElem? (i := 184) (by decide +kernel)))) (fun _ _ => (hg _ (List.mem_of_getElem? (i := 185) (by decide +kernel)))) (fun _ _ => (hg _ (List.mem_of_getElem? (i := 186) (by decide +kernel)))) (fun i hi => by rw [show i = 0 by omega]; exact (hg _ (List.mem_of_getElem? (i := 187) (by decide +kernel)))) (fun i hi j hj => by
      have h0 : i = 0 := by omega
      subst h0
      match j, hj with
      | 0, _ => exact (hg _ (List.mem_of_getElem? (i := 188) (by decide +kernel)))
      | 1, _ => exact (hg _ (List.mem_of_getElem? (i := 189) (by decide +kernel)))
      | 2, _ => exact (hg _ (List.mem_of_getElem? (i := 190) (by decide +kernel)))
      | 3, _ => exact (hg _ (List.mem_of_getElem? (i := 191) (by decide +kernel)))
      | j + 4, hj => exact absurd hj (by show ¬ j + 4 < 4; omega)) (fun i j hi hj e => by omega) old_free
  refine ⟨adK 0, adV 0, ⟨(h.1 0 (by decide)).1, (h.1 0 (by decide)).2.1, (h.1 0 (by decide)).2.2.1, ?_⟩, he 0 (by decide)⟩
  have e : (fun j => Value.int (Int32.ofInt (([108, 111, 97, 100] : List Int).getD j 0))) = fun j => Value.int ((([[108, 111, 97, 100]] : List (List Int32)).getD 0 []).getD j 0) := funext fun j => by
    rw [← gd_ofInt]
    rfl
  rw [e]
  exact (h.1 0 (by decide)).2.2.2
theorem tx_9 {b : Nat} {s : State} (hg : ∀ c ∈ narL, c.before #[.ref b] s = true) : ∃ a v : Nat, TXT "ShadeBeams$Law" 83 [115, 104, 97, 100, 101, 115] a v s ∧ (Term.string "ShadeBeams$Law" 83).eval #[.ref b] s none [] s = some (.ref a) := by
  obtain ⟨adK, adV, h, he⟩ := vk_Sof (args := #[.ref b]) (s := s) (N := 1) (tm := fun _ => .string "ShadeBeams$Law" 83) (len := [6]) (byt := [[115, 104, 97, 100, 101, 115]]) (A := fun q => s.heap.size ≤ q) (fun i hi => by rw [show i = 0 by omega]; decide) (fun _ _ => (hg _ (List.mem_of_getElem? (i := 201) (by decide +kernel)))) (fun _ _ => (hg _ (List.mem_of_getElem? (i := 202) (by decide +kernel)))) (fun _ _ => (hg _ (List.mem_of_getElem? (i := 203) (by decide +kernel)))) (fun i hi => by rw [show i = 0 by omega]; exact (hg _ (List.mem_of_getElem? (i := 204) (by decide +kernel)))) (fun i hi j hj => by
      have h0 : i = 0 := by omega
      subst h0
      match j, hj with
      | 0, _ => exact (hg _ (List.mem_of_getElem? (i := 205) (by decide +kernel)))
      | 1, _ => exact (hg _ (List.mem_of_getElem? (i := 206) (by decide +kernel)))
      | 2, _ => exact (hg _ (List.mem_of_getElem? (i := 207) (by decide +kernel)))
      | 3, _ => exact (hg _ (List.mem_of_getElem? (i := 208) (by decide +kernel)))
      | 4, _ => exact (hg _ (List.mem_of_getElem? (i := 209) (by decide +kernel)))
      | 5, _ => exact (hg _ (List.mem_of_getElem? (i := 210) (by decide +kernel)))
      | j + 6, hj => exact absurd hj (by show ¬ j + 6 < 6; omega)) (fun i j hi hj e => by omega) old_free
  refine ⟨adK 0, adV 0, ⟨(h.1 0 (by decide)).1, (h.1 0 (by decide)).2.1, (h.1 0 (by decide)).2.2.1, ?_⟩, he 0 (by decide)⟩
  have e : (fun j => Value.int (Int32.ofInt (([115, 104, 97, 100, 101, 115] : List Int).getD j 0))) = fun j => Value.int ((([[115, 104, 97, 100, 101, 115]] : List (List Int32)).getD 0 []).getD j 0) := funext fun j => by
    rw [← gd_ofInt]
    rfl
  rw [e]
  exact (h.1 0 (by decide)).2.2.2
theorem tx_10 {b : Nat} {s : State} (hg : ∀ c ∈ narL, c.before #[.ref b] s = true) : ∃ a v : Nat, TXT "ShadeBeams$Law" 89 [116, 97, 108, 108] a v s ∧ (Term.string "ShadeBeams$Law" 89).eval #[.ref b] s none [] s = some (.ref a) := by
  obtain ⟨adK, adV, h, he⟩ := vk_Sof (args := #[.ref b]) (s := s) (N := 1) (tm := fun _ => .string "ShadeBeams$Law" 89) (len := [4]) (byt := [[116, 97, 108, 108]]) (A := fun q => s.heap.size ≤ q) (fun i hi => by rw [show i = 0 by omega]; decide) (fun _ _ => (hg _ (List.mem_of_getElem? (i := 221) (by decide +kernel)))) (fun _ _ => (hg _ (List.mem_of_getElem? (i := 222) (by decide +kernel)))) (fun _ _ => (hg _ (List.mem_of_getElem? (i := 223) (by decide +kernel)))) (fun i hi => by rw [show i = 0 by omega]; exact (hg _ (List.mem_of_getElem? (i := 224) (by decide +kernel)))) (fun i hi j hj => by
      have h0 : i = 0 := by omega
      subst h0
      match j, hj with
      | 0, _ => exact (hg _ (List.mem_of_getElem? (i := 225) (by decide +kernel)))
      | 1, _ => exact (hg _ (List.mem_of_getElem? (i := 226) (by decide +kernel)))
      | 2, _ => exact (hg _ (List.mem_of_getElem? (i := 227) (by decide +kernel)))
      | 3, _ => exact (hg _ (List.mem_of_getElem? (i := 228) (by decide +kernel)))
      | j + 4, hj => exact absurd hj (by show ¬ j + 4 < 4; omega)) (fun i j hi hj e => by omega) old_free
  refine ⟨adK 0, adV 0, ⟨(h.1 0 (by decide)).1, (h.1 0 (by decide)).2.1, (h.1 0 (by decide)).2.2.1, ?_⟩, he 0 (by decide)⟩
  have e : (fun j => Value.int (Int32.ofInt (([116, 97, 108, 108] : List Int).getD j 0))) = fun j => Value.int ((([[116, 97, 108, 108]] : List (List Int32)).getD 0 []).getD j 0) := funext fun j => by
    rw [← gd_ofInt]
    rfl
  rw [e]
  exact (h.1 0 (by decide)).2.2.2
theorem tx_11 {b : Nat} {s : State} (hg : ∀ c ∈ narL, c.before #[.ref b] s = true) : ∃ a v : Nat, TXT "ShadeBeams$Law" 91 [104, 111, 117, 114] a v s ∧ (Term.string "ShadeBeams$Law" 91).eval #[.ref b] s none [] s = some (.ref a) := by
  obtain ⟨adK, adV, h, he⟩ := vk_Sof (args := #[.ref b]) (s := s) (N := 1) (tm := fun _ => .string "ShadeBeams$Law" 91) (len := [4]) (byt := [[104, 111, 117, 114]]) (A := fun q => s.heap.size ≤ q) (fun i hi => by rw [show i = 0 by omega]; decide) (fun _ _ => (hg _ (List.mem_of_getElem? (i := 240) (by decide +kernel)))) (fun _ _ => (hg _ (List.mem_of_getElem? (i := 241) (by decide +kernel)))) (fun _ _ => (hg _ (List.mem_of_getElem? (i := 242) (by decide +kernel)))) (fun i hi => by rw [show i = 0 by omega]; exact (hg _ (List.mem_of_getElem? (i := 243) (by decide +kernel)))) (fun i hi j hj => by
      have h0 : i = 0 := by omega
      subst h0
      match j, hj with
      | 0, _ => exact (hg _ (List.mem_of_getElem? (i := 244) (by decide +kernel)))
      | 1, _ => exact (hg _ (List.mem_of_getElem? (i := 245) (by decide +kernel)))
      | 2, _ => exact (hg _ (List.mem_of_getElem? (i := 246) (by decide +kernel)))
      | 3, _ => exact (hg _ (List.mem_of_getElem? (i := 247) (by decide +kernel)))
      | j + 4, hj => exact absurd hj (by show ¬ j + 4 < 4; omega)) (fun i j hi hj e => by omega) old_free
  refine ⟨adK 0, adV 0, ⟨(h.1 0 (by decide)).1, (h.1 0 (by decide)).2.1, (h.1 0 (by decide)).2.2.1, ?_⟩, he 0 (by decide)⟩
  have e : (fun j => Value.int (Int32.ofInt (([104, 111, 117, 114] : List Int).getD j 0))) = fun j => Value.int ((([[104, 111, 117, 114]] : List (List Int32)).getD 0 []).getD j 0) := funext fun j => by
    rw [← gd_ofInt]
    rfl
  rw [e]
  exact (h.1 0 (by decide)).2.2.2
theorem tx_12 {b : Nat} {s : State} (hg : ∀ c ∈ narL, c.before #[.ref b] s = true) : ∃ a v : Nat, TXT "ShadeBeams$Law" 93 [108, 97, 109, 112] a v s ∧ (Term.string "ShadeBeams$Law" 93).eval #[.ref b] s none [] s = some (.ref a) := by
  obtain ⟨adK, adV, h, he⟩ := vk_Sof (args := #[.ref b]) (s := s) (N := 1) (tm := fun _ => .string "ShadeBeams$Law" 93) (len := [4]) (byt := [[108, 97, 109, 112]]) (A := fun q => s.heap.size ≤ q) (fun i hi => by rw [show i = 0 by omega]; decide) (fun _ _ => (hg _ (List.mem_of_getElem? (i := 260) (by decide +kernel)))) (fun _ _ => (hg _ (List.mem_of_getElem? (i := 261) (by decide +kernel)))) (fun _ _ => (hg _ (List.mem_of_getElem? (i := 262) (by decide +kernel)))) (fun i hi => by rw [show i = 0 by omega]; exact (hg _ (List.mem_of_getElem? (i := 263) (by decide +kernel)))) (fun i hi j hj => by
      have h0 : i = 0 := by omega
      subst h0
      match j, hj with
      | 0, _ => exact (hg _ (List.mem_of_getElem? (i := 264) (by decide +kernel)))
      | 1, _ => exact (hg _ (List.mem_of_getElem? (i := 265) (by decide +kernel)))
      | 2, _ => exact (hg _ (List.mem_of_getElem? (i := 266) (by decide +kernel)))
      | 3, _ => exact (hg _ (List.mem_of_getElem? (i := 267) (by decide +kernel)))
      | j + 4, hj => exact absurd hj (by show ¬ j + 4 < 4; omega)) (fun i j hi hj e => by omega) old_free
  refine ⟨adK 0, adV 0, ⟨(h.1 0 (by decide)).1, (h.1 0 (by decide)).2.1, (h.1 0 (by decide)).2.2.1, ?_⟩, he 0 (by decide)⟩
  have e : (fun j => Value.int (Int32.ofInt (([108, 97, 109, 112] : List Int).getD j 0))) = fun j => Value.int ((([[108, 97, 109, 112]] : List (List Int32)).getD 0 []).getD j 0) := funext fun j => by
    rw [← gd_ofInt]
    rfl
  rw [e]
  exact (h.1 0 (by decide)).2.2.2
theorem tx_13 {b : Nat} {s : State} (hg : ∀ c ∈ narL, c.before #[.ref b] s = true) : ∃ a v : Nat, TXT "ShadeBeams$Law" 95 [108, 101, 97, 115, 116] a v s ∧ (Term.string "ShadeBeams$Law" 95).eval #[.ref b] s none [] s = some (.ref a) := by
  obtain ⟨adK, adV, h, he⟩ := vk_Sof (args := #[.ref b]) (s := s) (N := 1) (tm := fun _ => .string "ShadeBeams$Law" 95) (len := [5]) (byt := [[108, 101, 97, 115, 116]]) (A := fun q => s.heap.size ≤ q) (fun i hi => by rw [show i = 0 by omega]; decide) (fun _ _ => (hg _ (List.mem_of_getElem? (i := 281) (by decide +kernel)))) (fun _ _ => (hg _ (List.mem_of_getElem? (i := 282) (by decide +kernel)))) (fun _ _ => (hg _ (List.mem_of_getElem? (i := 283) (by decide +kernel)))) (fun i hi => by rw [show i = 0 by omega]; exact (hg _ (List.mem_of_getElem? (i := 284) (by decide +kernel)))) (fun i hi j hj => by
      have h0 : i = 0 := by omega
      subst h0
      match j, hj with
      | 0, _ => exact (hg _ (List.mem_of_getElem? (i := 285) (by decide +kernel)))
      | 1, _ => exact (hg _ (List.mem_of_getElem? (i := 286) (by decide +kernel)))
      | 2, _ => exact (hg _ (List.mem_of_getElem? (i := 287) (by decide +kernel)))
      | 3, _ => exact (hg _ (List.mem_of_getElem? (i := 288) (by decide +kernel)))
      | 4, _ => exact (hg _ (List.mem_of_getElem? (i := 289) (by decide +kernel)))
      | j + 5, hj => exact absurd hj (by show ¬ j + 5 < 5; omega)) (fun i j hi hj e => by omega) old_free
  refine ⟨adK 0, adV 0, ⟨(h.1 0 (by decide)).1, (h.1 0 (by decide)).2.1, (h.1 0 (by decide)).2.2.1, ?_⟩, he 0 (by decide)⟩
  have e : (fun j => Value.int (Int32.ofInt (([108, 101, 97, 115, 116] : List Int).getD j 0))) = fun j => Value.int ((([[108, 101, 97, 115, 116]] : List (List Int32)).getD 0 []).getD j 0) := funext fun j => by
    rw [← gd_ofInt]
    rfl
  rw [e]
  exact (h.1 0 (by decide)).2.2.2
theorem tx_14 {b : Nat} {s : State} (hg : ∀ c ∈ narL, c.before #[.ref b] s = true) : ∃ a v : Nat, TXT "ShadeBeams$Law" 97 [109, 111, 115, 116] a v s ∧ (Term.string "ShadeBeams$Law" 97).eval #[.ref b] s none [] s = some (.ref a) := by
  obtain ⟨adK, adV, h, he⟩ := vk_Sof (args := #[.ref b]) (s := s) (N := 1) (tm := fun _ => .string "ShadeBeams$Law" 97) (len := [4]) (byt := [[109, 111, 115, 116]]) (A := fun q => s.heap.size ≤ q) (fun i hi => by rw [show i = 0 by omega]; decide) (fun _ _ => (hg _ (List.mem_of_getElem? (i := 304) (by decide +kernel)))) (fun _ _ => (hg _ (List.mem_of_getElem? (i := 305) (by decide +kernel)))) (fun _ _ => (hg _ (List.mem_of_getElem? (i := 306) (by decide +kernel)))) (fun i hi => by rw [show i = 0 by omega]; exact (hg _ (List.mem_of_getElem? (i := 307) (by decide +kernel)))) (fun i hi j hj => by
      have h0 : i = 0 := by omega
      subst h0
      match j, hj with
      | 0, _ => exact (hg _ (List.mem_of_getElem? (i := 308) (by decide +kernel)))
      | 1, _ => exact (hg _ (List.mem_of_getElem? (i := 309) (by decide +kernel)))
      | 2, _ => exact (hg _ (List.mem_of_getElem? (i := 310) (by decide +kernel)))
      | 3, _ => exact (hg _ (List.mem_of_getElem? (i := 311) (by decide +kernel)))
      | j + 4, hj => exact absurd hj (by show ¬ j + 4 < 4; omega)) (fun i j hi hj e => by omega) old_free
  refine ⟨adK 0, adV 0, ⟨(h.1 0 (by decide)).1, (h.1 0 (by decide)).2.1, (h.1 0 (by decide)).2.2.1, ?_⟩, he 0 (by decide)⟩
  have e : (fun j => Value.int (Int32.ofInt (([109, 111, 115, 116] : List Int).getD j 0))) = fun j => Value.int ((([[109, 111, 115, 116]] : List (List Int32)).getD 0 []).getD j 0) := funext fun j => by
    rw [← gd_ofInt]
    rfl
  rw [e]
  exact (h.1 0 (by decide)).2.2.2
theorem tx_all {b : Nat} {s : State} (hg : ∀ c ∈ narL, c.before #[.ref b] s = true) : ∀ i : Nat, ∃ q : Nat × Nat, ∀ r, STRL[i]? = some r → (Term.string r.1 r.2.1).eval #[.ref b] s none [] s = some (.ref q.1) ∧ ∀ b', STRB[i]? = some b' → TXT r.1 r.2.1 b' q.1 q.2 s
  | 0 => by obtain ⟨a, v, h, e⟩ := tx_0 hg; exact ⟨(a, v), fun r hr => by cases hr; exact ⟨e, fun b' hb => by cases hb; exact h⟩⟩
  | 1 => by obtain ⟨a, v, h, e⟩ := tx_1 hg; exact ⟨(a, v), fun r hr => by cases hr; exact ⟨e, fun b' hb => by cases hb; exact h⟩⟩
  | 2 => by obtain ⟨a, v, h, e⟩ := tx_2 hg; exact ⟨(a, v), fun r hr => by cases hr; exact ⟨e, fun b' hb => by cases hb; exact h⟩⟩
  | 3 => by obtain ⟨a, v, h, e⟩ := tx_3 hg; exact ⟨(a, v), fun r hr => by cases hr; exact ⟨e, fun b' hb => by cases hb; exact h⟩⟩
  | 4 => by obtain ⟨a, v, h, e⟩ := tx_4 hg; exact ⟨(a, v), fun r hr => by cases hr; exact ⟨e, fun b' hb => by cases hb; exact h⟩⟩
  | 5 => by obtain ⟨a, v, h, e⟩ := tx_5 hg; exact ⟨(a, v), fun r hr => by cases hr; exact ⟨e, fun b' hb => by cases hb; exact h⟩⟩
  | 6 => by obtain ⟨a, v, h, e⟩ := tx_6 hg; exact ⟨(a, v), fun r hr => by cases hr; exact ⟨e, fun b' hb => by cases hb; exact h⟩⟩
  | 7 => by obtain ⟨a, v, h, e⟩ := tx_7 hg; exact ⟨(a, v), fun r hr => by cases hr; exact ⟨e, fun b' hb => by cases hb; exact h⟩⟩
  | 8 => by obtain ⟨a, v, h, e⟩ := tx_8 hg; exact ⟨(a, v), fun r hr => by cases hr; exact ⟨e, fun b' hb => by cases hb; exact h⟩⟩
  | 9 => by obtain ⟨a, v, h, e⟩ := tx_9 hg; exact ⟨(a, v), fun r hr => by cases hr; exact ⟨e, fun b' hb => by cases hb; exact h⟩⟩
  | 10 => by obtain ⟨a, v, h, e⟩ := tx_10 hg; exact ⟨(a, v), fun r hr => by cases hr; exact ⟨e, fun b' hb => by cases hb; exact h⟩⟩
  | 11 => by obtain ⟨a, v, h, e⟩ := tx_11 hg; exact ⟨(a, v), fun r hr => by cases hr; exact ⟨e, fun b' hb => by cases hb; exact h⟩⟩
  | 12 => by obtain ⟨a, v, h, e⟩ := tx_12 hg; exact ⟨(a, v), fun r hr => by cases hr; exact ⟨e, fun b' hb => by cases hb; exact h⟩⟩
  | 13 => by obtain ⟨a, v, h, e⟩ := tx_13 hg; exact ⟨(a, v), fun r hr => by cases hr; exact ⟨e, fun b' hb => by cases hb; exact h⟩⟩
  | 14 => by obtain ⟨a, v, h, e⟩ := tx_14 hg; exact ⟨(a, v), fun r hr => by cases hr; exact ⟨e, fun b' hb => by cases hb; exact h⟩⟩
  | 15 => by obtain ⟨a, c, cA, kA, e, -⟩ := Cond.exactly_spec (args := #[.ref b]) (first := s) (o := none) (s := s) (idx := []) (t := .string "ShadeBeams" 491) (cls := "java/lang/String") (hg _ (List.mem_of_getElem? (i := 56) (by decide +kernel))); exact ⟨(a, 0), fun r hr => by cases hr; exact ⟨e, fun b' hb => by cases hb⟩⟩
  | 16 => by obtain ⟨a, c, cA, kA, e, -⟩ := Cond.exactly_spec (args := #[.ref b]) (first := s) (o := none) (s := s) (idx := []) (t := .string "ShadeBeams" 484) (cls := "java/lang/String") (hg _ (List.mem_of_getElem? (i := 327) (by decide +kernel))); exact ⟨(a, 0), fun r hr => by cases hr; exact ⟨e, fun b' hb => by cases hb⟩⟩
  | 17 => by obtain ⟨a, c, cA, kA, e, -⟩ := Cond.exactly_spec (args := #[.ref b]) (first := s) (o := none) (s := s) (idx := []) (t := .string "ShadeBeams" 487) (cls := "java/lang/String") (hg _ (List.mem_of_getElem? (i := 359) (by decide +kernel))); exact ⟨(a, 0), fun r hr => by cases hr; exact ⟨e, fun b' hb => by cases hb⟩⟩
  | 18 => by obtain ⟨a, c, cA, kA, e, -⟩ := Cond.exactly_spec (args := #[.ref b]) (first := s) (o := none) (s := s) (idx := []) (t := .string "ShadeBeams" 477) (cls := "java/lang/String") (hg _ (List.mem_of_getElem? (i := 392) (by decide +kernel))); exact ⟨(a, 0), fun r hr => by cases hr; exact ⟨e, fun b' hb => by cases hb⟩⟩
  | _ + 19 => ⟨(0, 0), fun r h => by cases h⟩
theorem st_ref {b : Nat} {s : State} (hts : ∀ w ∈ lw_tbl, w.before #[.ref b] s = true) : ∀ (i : Nat) (r : String × Nat × String), STRL[i]? = some r → (Cond.stringRef r.1 r.2.1 r.2.2).before #[.ref b] s = true
  | 0, _, h => by cases h; exact hts _ (tb_4 _ (List.mem_of_getElem? (i := 126) rfl))
  | 1, _, h => by cases h; exact hts _ (tb_4 _ (List.mem_of_getElem? (i := 179) rfl))
  | 2, _, h => by cases h; exact hts _ (tb_4 _ (List.mem_of_getElem? (i := 180) rfl))
  | 3, _, h => by cases h; exact hts _ (tb_4 _ (List.mem_of_getElem? (i := 181) rfl))
  | 4, _, h => by cases h; exact hts _ (tb_4 _ (List.mem_of_getElem? (i := 182) rfl))
  | 5, _, h => by cases h; exact hts _ (tb_4 _ (List.mem_of_getElem? (i := 183) rfl))
  | 6, _, h => by cases h; exact hts _ (tb_4 _ (List.mem_of_getElem? (i := 184) rfl))
  | 7, _, h => by cases h; exact hts _ (tb_4 _ (List.mem_of_getElem? (i := 185) rfl))
  | 8, _, h => by cases h; exact hts _ (tb_4 _ (List.mem_of_getElem? (i := 186) rfl))
  | 9, _, h => by cases h; exact hts _ (tb_5 _ (List.mem_of_getElem? (i := 62) rfl))
  | 10, _, h => by cases h; exact hts _ (tb_5 _ (List.mem_of_getElem? (i := 64) rfl))
  | 11, _, h => by cases h; exact hts _ (tb_5 _ (List.mem_of_getElem? (i := 65) rfl))
  | 12, _, h => by cases h; exact hts _ (tb_5 _ (List.mem_of_getElem? (i := 66) rfl))
  | 13, _, h => by cases h; exact hts _ (tb_5 _ (List.mem_of_getElem? (i := 67) rfl))
  | 14, _, h => by cases h; exact hts _ (tb_5 _ (List.mem_of_getElem? (i := 68) rfl))
  | 15, _, h => by cases h; exact hts _ (tb_4 _ (List.mem_of_getElem? (i := 68) rfl))
  | 16, _, h => by cases h; exact hts _ (tb_5 _ (List.mem_of_getElem? (i := 141) rfl))
  | 17, _, h => by cases h; exact hts _ (tb_5 _ (List.mem_of_getElem? (i := 163) rfl))
  | 18, _, h => by cases h; exact hts _ (tb_5 _ (List.mem_of_getElem? (i := 205) rfl))
  | _ + 19, _, h => by cases h
theorem cl_all {b : Nat} {s : State} (hts : ∀ w ∈ ALLW, w.before #[.ref b] s = true) : ∀ c : Nat, ∃ q : ClassId × (Nat → Nat), ∀ r, vwCl[c]? = some r → u_Kn s r.1 r.2.1 r.2.2 q.1 q.2
  | 0 => by obtain ⟨c, f, h⟩ := u_known (C := RX0) (T := TX0) (N := 7) (n := 7) hts uwX0 (hts _ w_418); exact ⟨(c, f), fun r hr => by cases hr; exact h⟩
  | 1 => by obtain ⟨c, f, h⟩ := u_known (C := RX1) (T := TX1) (N := 4) (n := 4) hts uwX1 (hts _ w_362); exact ⟨(c, f), fun r hr => by cases hr; exact h⟩
  | 2 => by obtain ⟨c, f, h⟩ := u_known (C := RX2) (T := TX2) (N := 5) (n := 5) hts uwX2 (hts _ w_248); exact ⟨(c, f), fun r hr => by cases hr; exact h⟩
  | 3 => by obtain ⟨c, f, h⟩ := u_known (C := RX3) (T := TX3) (N := 7) (n := 7) hts uwX3 (hts _ w_330); exact ⟨(c, f), fun r hr => by cases hr; exact h⟩
  | 4 => by obtain ⟨c, f, h⟩ := u_known (C := RX4) (T := TX4) (N := 14) (n := 14) hts uwX4 (hts _ w_273); exact ⟨(c, f), fun r hr => by cases hr; exact h⟩
  | 5 => by obtain ⟨c, f, h⟩ := u_known (C := RX5) (T := TX5) (N := 5) (n := 5) hts uwX5 (hts _ w_560); exact ⟨(c, f), fun r hr => by cases hr; exact h⟩
  | 6 => by obtain ⟨c, f, h⟩ := u_known (C := RX6) (T := TX6) (N := 8) (n := 8) hts uwX6 (hts _ w_381); exact ⟨(c, f), fun r hr => by cases hr; exact h⟩
  | 7 => by obtain ⟨c, f, h⟩ := u_known (C := RX7) (T := TX7) (N := 4) (n := 4) hts uwX7 (hts _ w_190); exact ⟨(c, f), fun r hr => by cases hr; exact h⟩
  | 8 => by obtain ⟨c, f, h⟩ := u_known (C := RX8) (T := TX8) (N := 4) (n := 4) hts uwX8 (hts _ w_218); exact ⟨(c, f), fun r hr => by cases hr; exact h⟩
  | 9 => by obtain ⟨c, f, h⟩ := u_known (C := RX9) (T := TX9) (N := 17) (n := 17) hts uwX9 (hts _ w_412); exact ⟨(c, f), fun r hr => by cases hr; exact h⟩
  | 10 => by obtain ⟨c, f, h⟩ := u_known (C := RX10) (T := TX10) (N := 7) (n := 7) hts uwX10 (hts _ w_159); exact ⟨(c, f), fun r hr => by cases hr; exact h⟩
  | 11 => by obtain ⟨c, f, h⟩ := u_known (C := RX11) (T := TX11) (N := 20) (n := 20) hts uwX11 (hts _ w_151); exact ⟨(c, f), fun r hr => by cases hr; exact h⟩
  | 12 => by obtain ⟨c, f, h⟩ := u_known (C := RX12) (T := TX12) (N := 66) (n := 66) hts uwX12 (hts _ w_1724); exact ⟨(c, f), fun r hr => by cases hr; exact h⟩
  | _ + 13 => ⟨(0, fun _ => 0), fun r h => by cases h⟩
abbrev tysL : List FieldType := [.int, .byte, .boolean, .long, .object "ShadeBeams$Image", .array .int, .array .long]
theorem ar_all {b : Nat} {s : State} (hts : ∀ w ∈ lw_tbl, w.before #[.ref b] s = true) : ∀ k : Nat, ∃ c : ClassId, ∀ ty, tysL[k]? = some ty → ArrOfT s c ty ∧ va_RA s c ty
  | 0 => by obtain ⟨c, kA, comp, h1, h2, h3⟩ := Cond.arrayClass_spec (hts (.arrayClass .int) (tb_1 _ (List.mem_of_getElem? (i := 96) rfl))); exact ⟨c, fun ty h => by cases h; exact ⟨fun n z => ⟨(fun k h => by cases h), kA, h2, comp, h3⟩, h1⟩⟩
  | 1 => by obtain ⟨c, kA, comp, h1, h2, h3⟩ := Cond.arrayClass_spec (hts (.arrayClass .byte) (tb_1 _ (List.mem_of_getElem? (i := 68) rfl))); exact ⟨c, fun ty h => by cases h; exact ⟨fun n z => ⟨(fun k h => by cases h), kA, h2, comp, h3⟩, h1⟩⟩
  | 2 => by obtain ⟨c, kA, comp, h1, h2, h3⟩ := Cond.arrayClass_spec (hts (.arrayClass .boolean) (tb_8 _ (List.mem_of_getElem? (i := 144) rfl))); exact ⟨c, fun ty h => by cases h; exact ⟨fun n z => ⟨(fun k h => by cases h), kA, h2, comp, h3⟩, h1⟩⟩
  | 3 => by obtain ⟨c, kA, comp, h1, h2, h3⟩ := Cond.arrayClass_spec (hts (.arrayClass .long) (tb_1 _ (List.mem_of_getElem? (i := 208) rfl))); exact ⟨c, fun ty h => by cases h; exact ⟨fun n z => ⟨(fun k h => by cases h), kA, h2, comp, h3⟩, h1⟩⟩
  | 4 => by obtain ⟨comp, c, kA, h1, -, h2, h3, h4⟩ := Cond.arrayOver_spec (hts (.arrayOver (.object "ShadeBeams$Image")) (tb_1 _ (List.mem_of_getElem? (i := 151) rfl))); exact ⟨c, fun ty h => by cases h; exact ⟨fun n z => ⟨(fun k h => by cases h), kA, h2, comp, h3⟩, kA, comp, h2, h3, h1, h4⟩⟩
  | 5 => by obtain ⟨comp, c, kA, h1, -, h2, h3, h4⟩ := arrayOver_specB (hts (.arrayOver (.array .int)) (tb_7 _ (List.mem_of_getElem? (i := 170) rfl))); exact ⟨c, fun ty h => by cases h; exact ⟨fun n z => ⟨(fun k h => by cases h), kA, h2, comp, h3⟩, h4⟩⟩
  | 6 => by obtain ⟨comp, c, kA, h1, -, h2, h3, h4⟩ := arrayOver_specB (hts (.arrayOver (.array .long)) (tb_7 _ (List.mem_of_getElem? (i := 173) rfl))); exact ⟨c, fun ty h => by cases h; exact ⟨fun n z => ⟨(fun k h => by cases h), kA, h2, comp, h3⟩, h4⟩⟩
  | _ + 7 => ⟨0, fun ty h => by cases h⟩
theorem nc_all {b : Nat} {s : State} (hg : ∀ c ∈ narL, c.before #[.ref b] s = true) : ∀ E ∈ exN, ∀ F ∈ exN, E ≠ F → va_Nc E F s := by
  intro E hE F hF hne
  simp only [exN, List.mem_cons, List.not_mem_nil, or_false] at hE hF
  rcases hE with rfl | rfl | rfl <;> rcases hF with rfl | rfl | rfl
  · exact absurd rfl hne
  · exact va_Nc.of (args := #[.ref b]) (hg _ (List.mem_of_getElem? (i := 40) (by decide +kernel)))
  · exact va_Nc.of (args := #[.ref b]) (hg _ (List.mem_of_getElem? (i := 25) (by decide +kernel)))
  · exact va_Nc.of (args := #[.ref b]) (hg _ (List.mem_of_getElem? (i := 55) (by decide +kernel)))
  · exact absurd rfl hne
  · exact va_Nc.of (args := #[.ref b]) (hg _ (List.mem_of_getElem? (i := 24) (by decide +kernel)))
  · exact va_Nc.of (args := #[.ref b]) (hg _ (List.mem_of_getElem? (i := 54) (by decide +kernel)))
  · exact va_Nc.of (args := #[.ref b]) (hg _ (List.mem_of_getElem? (i := 39) (by decide +kernel)))
  · exact absurd rfl hne
theorem law_world (l : Launch) (hst : l.stackTraces = false) {b : Nat} {s : State} (hts : ∀ w ∈ lw_tbl, w.before #[.ref b] s = true) (hg : ∀ c ∈ narL, c.before #[.ref b] s = true) : ∃ g : Gw, gL g = l ∧ gS g = s ∧ GF g ∧ PWS g s := by
  obtain ⟨fC, hC⟩ := Classical.axiomOfChoice (cl_all fun w hw => hts w (aw_in hw))
  obtain ⟨fA, hA⟩ := Classical.axiomOfChoice (ar_all hts)
  obtain ⟨fT, hT⟩ := Classical.axiomOfChoice (tx_all hg)
  refine ⟨(fun c => (fC c).1, fun c => (fC c).2, fA, l, s, fun i => (fT i).1, fun i => (fT i).2), rfl, rfl, ⟨⟨hC, ?_⟩, hst, ⟨?_, ?_, ?_, ?_, ?_⟩, nc_all hg, va_AO.of (A := #[.ref b]) (hts _ (tb_1 _ (List.mem_of_getElem? (i := 151) rfl))), hts (.arrayOver (.array .int)) (tb_7 _ (List.mem_of_getElem? (i := 170) rfl)), hts (.arrayOver (.array .long)) (tb_7 _ (List.mem_of_getElem? (i := 173) rfl))⟩, ?_, ?_⟩
  · intro k q hq
    match k, hq with
    | 0, hq => cases hq; exact hA 0 _ rfl
    | 1, hq => cases hq; exact hA 1 _ rfl
    | 2, hq => cases hq; exact hA 2 _ rfl
    | 3, hq => cases hq; exact hA 3 _ rfl
    | 4, hq => cases hq; exact hA 4 _ rfl
    | 5, hq => cases hq; exact hA 5 _ rfl
    | 6, hq => cases hq; exact hA 6 _ rfl
    | _ + 7, hq => cases hq
  · intro i bb hb
    have hi : i < 15 := (List.getElem?_eq_some_iff.mp hb).1
    obtain ⟨r, hr⟩ : ∃ r, STRL[i]? = some r := ⟨_, List.getElem?_eq_getElem (show i < STRL.length from Nat.lt_of_lt_of_le hi (by decide))⟩
    exact (hT i r hr).2 bb hb
  · exact va_Zof (args := #[.ref b]) (hts (.laysStatic "java/lang/String" "COMPACT_STRINGS" "Z") (tb_4 _ (List.mem_of_getElem? (i := 140) rfl))) (hts (.initialized "java/lang/String") (aw_in w_140)) (va_eqt (hg _ (List.mem_of_getElem? (i := 6) (by decide +kernel)))) old_free
  · exact va_Zqof (args := #[.ref b]) (hts (.laysStatic "jdk/internal/util/Preconditions" "SIOOBE_FORMATTER" "Ljava/util/function/BiFunction;") (tb_4 _ (List.mem_of_getElem? (i := 156) rfl))) (hts (.initialized "jdk/internal/util/Preconditions") (aw_in w_142)) (hg _ (List.mem_of_getElem? (i := 7) (by decide +kernel))) old_free
  · exact vx_Zqof (args := #[.ref b]) (hts (.laysStatic "java/lang/Throwable" "UNASSIGNED_STACK" "[Ljava/lang/StackTraceElement;") (tb_4 _ (List.mem_of_getElem? (i := 54) rfl))) (hts (.initialized "java/lang/Throwable") (aw_in w_135)) (hg _ (List.mem_of_getElem? (i := 4) (by decide +kernel))) old_free
  · exact vx_Zqof (args := #[.ref b]) (hts (.laysStatic "java/lang/Throwable" "SUPPRESSED_SENTINEL" "Ljava/util/List;") (tb_4 _ (List.mem_of_getElem? (i := 56) rfl))) (hts (.initialized "java/lang/Throwable") (aw_in w_135)) (hg _ (List.mem_of_getElem? (i := 5) (by decide +kernel))) old_free
  · exact fun w hw => va_tabs (anw_on hw) rfl (hts w (anw_in hw))
  · exact fun i q hq => vk_R.of (A := #[.ref b]) (st_ref hts i q hq) (hT i q hq).1
