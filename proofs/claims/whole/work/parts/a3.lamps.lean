/-! the first of alike rows of lamps -/
def incL (W : Nat) : Nat → List Nat → Prop
  | _, [] => True
  | f, x :: t => (f ≤ x ∧ x < W) ∧ incL W (x + 1) t
def dgt (l : List Nat) : Nat := l.foldl (fun d x => 64 * d + x) 0
/-- lamps as told and those of a row more -/
def LM (base : Nat → Bool) (gn : Nat → Nat → Bool) (l : List Nat) : Nat → Bool := fun c => l.foldl (fun b x => b || gn x c) (base c)
theorem LM_snoc (base : Nat → Bool) (gn : Nat → Nat → Bool) (l : List Nat) (x c : Nat) : LM base gn (l ++ [x]) c = (LM base gn l c || gn x c) := by
  unfold LM
  rw [List.foldl_append]
  rfl
theorem dgt_snoc (l : List Nat) (x : Nat) : dgt (l ++ [x]) = 64 * dgt l + x := by
  unfold dgt
  rw [List.foldl_append]
  rfl
theorem snoc_app (p : List Nat) (x : Nat) (t : List Nat) : p ++ x :: t = (p ++ [x]) ++ t := by rw [List.append_assoc]; rfl
theorem fold_dgt : ∀ (l : List Nat) (a : Nat), l.foldl (fun d x => 64 * d + x) a = a * 64 ^ l.length + dgt l
  | [], a => by show a = a * 64 ^ 0 + 0; omega
  | x :: t, a => by
    have e1 : (x :: t).foldl (fun d x => 64 * d + x) a = t.foldl (fun d x => 64 * d + x) (64 * a + x) := rfl
    have e2 : dgt (x :: t) = t.foldl (fun d x => 64 * d + x) (64 * 0 + x) := rfl
    have e3 : (x :: t).length = t.length + 1 := rfl
    rw [e1, e2, e3, fold_dgt t (64 * a + x), fold_dgt t (64 * 0 + x), Nat.pow_succ, Nat.add_mul, Nat.mul_zero, Nat.zero_add, Nat.mul_comm 64 a, Nat.mul_assoc a 64, Nat.mul_comm 64 (64 ^ t.length)]
    omega
theorem dgt_app (p t : List Nat) : dgt (p ++ t) = dgt p * 64 ^ t.length + dgt t := by
  have e : dgt (p ++ t) = t.foldl (fun d x => 64 * d + x) (dgt p) := by unfold dgt; rw [List.foldl_append]
  rw [e, fold_dgt]
theorem dgt_cons (x : Nat) (t : List Nat) : dgt (x :: t) = x * 64 ^ t.length + dgt t := by
  have e : dgt (x :: t) = t.foldl (fun d x => 64 * d + x) (64 * 0 + x) := rfl
  rw [e, fold_dgt, Nat.mul_zero, Nat.zero_add]
theorem dgt_lt64 : ∀ (l : List Nat), (∀ x, x ∈ l → x < 64) → dgt l < 64 ^ l.length
  | [], _ => by decide
  | x :: t, h => by
    have h1 := dgt_lt64 t (fun y hy => h y (List.mem_cons_of_mem _ hy))
    have h2 : x + 1 ≤ 64 := h x List.mem_cons_self
    have h3 := Nat.mul_le_mul_right (64 ^ t.length) h2
    rw [dgt_cons, show (x :: t).length = t.length + 1 from rfl, Nat.pow_succ, Nat.mul_comm (64 ^ t.length) 64]
    rw [Nat.add_mul, Nat.one_mul] at h3
    omega
theorem incL_mem {W : Nat} : ∀ {f : Nat} {l : List Nat}, incL W f l → ∀ x, x ∈ l → x < W
  | _, [], _, x, hx => by cases hx
  | _, y :: t, h, x, hx => by
    rcases List.mem_cons.mp hx with q | q
    · rw [q]; exact h.1.2
    · exact incL_mem h.2 x q
theorem incL_up {W : Nat} : ∀ {f g : Nat} {l : List Nat}, f ≤ g → incL W g l → incL W f l
  | _, _, [], _, _ => trivial
  | _, _, x :: t, h, q => ⟨⟨Nat.le_trans h q.1.1, q.1.2⟩, q.2⟩
/-- an earlier first lamp is an earlier row -/
theorem dgt_first {p s s' : List Nat} {x x' : Nat} (hx : x < x') (hl : s.length = s'.length) (hs : ∀ y, y ∈ s → y < 64) : dgt (p ++ x :: s) < dgt (p ++ x' :: s') := by
  have h1 := dgt_lt64 s hs
  have h2 : x + 1 ≤ x' := hx
  have h3 := Nat.mul_le_mul_right (64 ^ s.length) h2
  rw [Nat.add_mul, Nat.one_mul] at h3
  rw [dgt_app, dgt_app, dgt_cons, dgt_cons, show (x :: s).length = s.length + 1 from rfl, show (x' :: s').length = s'.length + 1 from rfl, ← hl]
  omega
theorem min_ex {α : Type} {q : α → Prop} (f : α → Nat) : ∀ (n : Nat) (a : α), f a < n → q a → ∃ b, q b ∧ ∀ c, q c → f b ≤ f c
  | 0, _, h, _ => by omega
  | n + 1, a, h, ha => by
    by_cases c : ∃ b, q b ∧ f b < f a
    · obtain ⟨b, h1, h2⟩ := c
      exact min_ex f n b (by omega) h1
    · exact ⟨a, ha, fun b hb => Nat.le_of_not_lt (fun k => c ⟨b, hb, k⟩)⟩
section
variable {base : Nat → Bool} {gn : Nat → Nat → Bool} {Good : (Nat → Bool) → Prop} {W m : Nat} {cl : Nat → Nat}
/-- of alike rows the first one takes of each kind of cells the first alone -/
theorem lit_cand (h3 : ∀ x, x < W → (∀ c, gn x c = false) ∨ ∃ i, i < m ∧ cl i ≤ x ∧ ∀ c, gn (cl i) c = gn x c) (h2 : ∀ i j, i < j → j < m → cl i < cl j) {n : Nat} (hn : n ≤ 3) (hno : ∀ t, incL W 0 t → t.length < n → ¬ Good (LM base gn t)) {t : List Nat} (ht : incL W 0 t) (hl : t.length = n) (hg : Good (LM base gn t)) (hmin : ∀ t', incL W 0 t' → t'.length = n → Good (LM base gn t') → dgt t ≤ dgt t') : ∃ i, incL m 0 i ∧ i.length = n ∧ t = i.map cl := by
  have hord : ∀ i j, i < m → j < m → cl i + 1 ≤ cl j → i + 1 ≤ j := by
    intro i j hi hj q
    apply Decidable.byContradiction
    intro k
    by_cases e : i = j
    · subst e; omega
    · have := h2 j i (by omega) hi
      omega
  have fewer : ∀ t', incL W 0 t' → t'.length < n → LM base gn t' = LM base gn t → False := fun t' a b e => hno t' a b (by rw [e]; exact hg)
  have less : ∀ t', incL W 0 t' → t'.length = n → LM base gn t' = LM base gn t → dgt t ≤ dgt t' := fun t' a b e => hmin t' a b (by rw [e]; exact hg)
  match t, ht, hl with
  | [], _, hl => exact ⟨[], trivial, hl, rfl⟩
  | [a], ht, hl =>
    have hl' : 1 = n := hl
    have ha := ht.1.2
    have fa : ∃ i, i < m ∧ cl i = a := by
      rcases h3 a ha with q | ⟨i, hi, hle, he⟩
      · exfalso
        refine fewer [] trivial (by show 0 < n; omega) ?_
        funext k
        simp only [LM, List.foldl_cons, List.foldl_nil, q k]
        cases base k <;> rfl
      · by_cases c : cl i = a
        · exact ⟨i, hi, c⟩
        · exfalso
          have := less [cl i] ⟨⟨Nat.zero_le _, by omega⟩, trivial⟩ hl (by
            funext k
            simp only [LM, List.foldl_cons, List.foldl_nil, he k])
          have : 64 * 0 + a ≤ 64 * 0 + cl i := this
          omega
    obtain ⟨i, hi, e⟩ := fa
    exact ⟨[i], ⟨⟨Nat.zero_le _, hi⟩, trivial⟩, hl, by rw [← e]; rfl⟩
  | [a, b], ht, hl =>
    have hl' : 2 = n := hl
    obtain ⟨⟨_, ha⟩, ⟨hab, hb⟩, _⟩ := ht
    have fa : ∃ i, i < m ∧ cl i = a := by
      rcases h3 a ha with q | ⟨i, hi, hle, he⟩
      · exfalso
        refine fewer [b] ⟨⟨Nat.zero_le _, hb⟩, trivial⟩ (by show 1 < n; omega) ?_
        funext k
        simp only [LM, List.foldl_cons, List.foldl_nil, q k]
        cases base k <;> cases gn b k <;> rfl
      · by_cases c : cl i = a
        · exact ⟨i, hi, c⟩
        · exfalso
          have := less [cl i, b] ⟨⟨Nat.zero_le _, by omega⟩, ⟨by omega, hb⟩, trivial⟩ hl (by
            funext k
            simp only [LM, List.foldl_cons, List.foldl_nil, he k])
          have : 64 * (64 * 0 + a) + b ≤ 64 * (64 * 0 + cl i) + b := this
          omega
    have fb : ∃ i, i < m ∧ cl i = b := by
      rcases h3 b hb with q | ⟨i, hi, hle, he⟩
      · exfalso
        refine fewer [a] ⟨⟨Nat.zero_le _, ha⟩, trivial⟩ (by show 1 < n; omega) ?_
        funext k
        simp only [LM, List.foldl_cons, List.foldl_nil, q k]
        cases base k <;> cases gn a k <;> rfl
      · by_cases c : cl i = b
        · exact ⟨i, hi, c⟩
        · exfalso
          by_cases c1 : cl i < a
          · have := less [cl i, a] ⟨⟨Nat.zero_le _, by omega⟩, ⟨by omega, ha⟩, trivial⟩ hl (by
              funext k
              simp only [LM, List.foldl_cons, List.foldl_nil, he k]
              cases base k <;> cases gn a k <;> cases gn b k <;> rfl)
            have : 64 * (64 * 0 + a) + b ≤ 64 * (64 * 0 + cl i) + a := this
            omega
          · by_cases c2 : cl i = a
            · refine fewer [a] ⟨⟨Nat.zero_le _, ha⟩, trivial⟩ (by show 1 < n; omega) ?_
              rw [c2] at he
              funext k
              simp only [LM, List.foldl_cons, List.foldl_nil, ← he k]
              cases base k <;> cases gn a k <;> rfl
            · have := less [a, cl i] ⟨⟨Nat.zero_le _, ha⟩, ⟨by omega, by omega⟩, trivial⟩ hl (by
                funext k
                simp only [LM, List.foldl_cons, List.foldl_nil, he k])
              have : 64 * (64 * 0 + a) + b ≤ 64 * (64 * 0 + a) + cl i := this
              omega
    obtain ⟨i, hi, e⟩ := fa
    obtain ⟨j, hj, e2⟩ := fb
    exact ⟨[i, j], ⟨⟨Nat.zero_le _, hi⟩, ⟨hord i j hi hj (by omega), hj⟩, trivial⟩, hl, by rw [← e, ← e2]; rfl⟩
  | [a, b, d], ht, hl =>
    have hl' : 3 = n := hl
    obtain ⟨⟨_, ha⟩, ⟨hab, hb⟩, ⟨hbd, hd⟩, _⟩ := ht
    have fa : ∃ i, i < m ∧ cl i = a := by
      rcases h3 a ha with q | ⟨i, hi, hle, he⟩
      · exfalso
        refine fewer [b, d] ⟨⟨Nat.zero_le _, hb⟩, ⟨hbd, hd⟩, trivial⟩ (by show 2 < n; omega) ?_
        funext k
        simp only [LM, List.foldl_cons, List.foldl_nil, q k]
        cases base k <;> cases gn b k <;> cases gn d k <;> rfl
      · by_cases c : cl i = a
        · exact ⟨i, hi, c⟩
        · exfalso
          have := less [cl i, b, d] ⟨⟨Nat.zero_le _, by omega⟩, ⟨by omega, hb⟩, ⟨hbd, hd⟩, trivial⟩ hl (by
            funext k
            simp only [LM, List.foldl_cons, List.foldl_nil, he k])
          have : 64 * (64 * (64 * 0 + a) + b) + d ≤ 64 * (64 * (64 * 0 + cl i) + b) + d := this
          omega
    have fb : ∃ i, i < m ∧ cl i = b := by
      rcases h3 b hb with q | ⟨i, hi, hle, he⟩
      · exfalso
        refine fewer [a, d] ⟨⟨Nat.zero_le _, ha⟩, ⟨by omega, hd⟩, trivial⟩ (by show 2 < n; omega) ?_
        funext k
        simp only [LM, List.foldl_cons, List.foldl_nil, q k]
        cases base k <;> cases gn a k <;> cases gn d k <;> rfl
      · by_cases c : cl i = b
        · exact ⟨i, hi, c⟩
        · exfalso
          by_cases c1 : cl i < a
          · have := less [cl i, a, d] ⟨⟨Nat.zero_le _, by omega⟩, ⟨by omega, ha⟩, ⟨by omega, hd⟩, trivial⟩ hl (by
              funext k
              simp only [LM, List.foldl_cons, List.foldl_nil, he k]
              cases base k <;> cases gn a k <;> cases gn b k <;> cases gn d k <;> rfl)
            have : 64 * (64 * (64 * 0 + a) + b) + d ≤ 64 * (64 * (64 * 0 + cl i) + a) + d := this
            omega
          · by_cases c2 : cl i = a
            · refine fewer [a, d] ⟨⟨Nat.zero_le _, ha⟩, ⟨by omega, hd⟩, trivial⟩ (by show 2 < n; omega) ?_
              rw [c2] at he
              funext k
              simp only [LM, List.foldl_cons, List.foldl_nil, ← he k]
              cases base k <;> cases gn a k <;> cases gn d k <;> rfl
            · have := less [a, cl i, d] ⟨⟨Nat.zero_le _, ha⟩, ⟨by omega, by omega⟩, ⟨by omega, hd⟩, trivial⟩ hl (by
                funext k
                simp only [LM, List.foldl_cons, List.foldl_nil, he k])
              have : 64 * (64 * (64 * 0 + a) + b) + d ≤ 64 * (64 * (64 * 0 + a) + cl i) + d := this
              omega
    have fd : ∃ i, i < m ∧ cl i = d := by
      rcases h3 d hd with q | ⟨i, hi, hle, he⟩
      · exfalso
        refine fewer [a, b] ⟨⟨Nat.zero_le _, ha⟩, ⟨hab, hb⟩, trivial⟩ (by show 2 < n; omega) ?_
        funext k
        simp only [LM, List.foldl_cons, List.foldl_nil, q k]
        cases base k <;> cases gn a k <;> cases gn b k <;> rfl
      · by_cases c : cl i = d
        · exact ⟨i, hi, c⟩
        · exfalso
          by_cases c1 : cl i < a
          · have := less [cl i, a, b] ⟨⟨Nat.zero_le _, by omega⟩, ⟨by omega, ha⟩, ⟨hab, hb⟩, trivial⟩ hl (by
              funext k
              simp only [LM, List.foldl_cons, List.foldl_nil, he k]
              cases base k <;> cases gn a k <;> cases gn b k <;> cases gn d k <;> rfl)
            have : 64 * (64 * (64 * 0 + a) + b) + d ≤ 64 * (64 * (64 * 0 + cl i) + a) + b := this
            omega
          · by_cases c2 : cl i = a
            · refine fewer [a, b] ⟨⟨Nat.zero_le _, ha⟩, ⟨hab, hb⟩, trivial⟩ (by show 2 < n; omega) ?_
              rw [c2] at he
              funext k
              simp only [LM, List.foldl_cons, List.foldl_nil, ← he k]
              cases base k <;> cases gn a k <;> cases gn b k <;> rfl
            · by_cases c3 : cl i < b
              · have := less [a, cl i, b] ⟨⟨Nat.zero_le _, ha⟩, ⟨by omega, by omega⟩, ⟨by omega, hb⟩, trivial⟩ hl (by
                  funext k
                  simp only [LM, List.foldl_cons, List.foldl_nil, he k]
                  cases base k <;> cases gn a k <;> cases gn b k <;> cases gn d k <;> rfl)
                have : 64 * (64 * (64 * 0 + a) + b) + d ≤ 64 * (64 * (64 * 0 + a) + cl i) + b := this
                omega
              · by_cases c4 : cl i = b
                · refine fewer [a, b] ⟨⟨Nat.zero_le _, ha⟩, ⟨hab, hb⟩, trivial⟩ (by show 2 < n; omega) ?_
                  rw [c4] at he
                  funext k
                  simp only [LM, List.foldl_cons, List.foldl_nil, ← he k]
                  cases base k <;> cases gn a k <;> cases gn b k <;> rfl
                · have := less [a, b, cl i] ⟨⟨Nat.zero_le _, ha⟩, ⟨hab, hb⟩, ⟨by omega, by omega⟩, trivial⟩ hl (by
                    funext k
                    simp only [LM, List.foldl_cons, List.foldl_nil, he k])
                  have : 64 * (64 * (64 * 0 + a) + b) + d ≤ 64 * (64 * (64 * 0 + a) + b) + cl i := this
                  omega
    obtain ⟨i, hi, e⟩ := fa
    obtain ⟨j, hj, e2⟩ := fb
    obtain ⟨k, hk, e3⟩ := fd
    exact ⟨[i, j, k], ⟨⟨Nat.zero_le _, hi⟩, ⟨hord i j hi hj (by omega), hj⟩, ⟨hord j k hj hk (by omega), hk⟩, trivial⟩, hl, by rw [← e, ← e2, ← e3]; rfl⟩
  | a :: b :: d :: e :: r, _, hl => exact absurd hl (by show ¬ r.length + 1 + 1 + 1 + 1 = n; omega)
theorem incL_map (h1 : ∀ i, i < m → cl i < W) (h2 : ∀ i j, i < j → j < m → cl i < cl j) : ∀ {f g : Nat} {i : List Nat}, incL m f i → (∀ j, f ≤ j → j < m → g ≤ cl j) → incL W g (i.map cl)
  | _, _, [], _, _ => trivial
  | f, g, x :: t, h, hf => ⟨⟨hf x h.1.1 h.1.2, h1 x h.1.2⟩, incL_map h1 h2 h.2 (fun j hj hjm => h2 x j hj hjm)⟩
/-- the answer: the fewest lamps, of alike rows the first -/
def LITr (W : Nat) (base : Nat → Bool) (gn : Nat → Nat → Bool) (Good : (Nat → Bool) → Prop) (v r : Int) : Prop :=
  (v = -1 ∧ ∀ t, incL W 0 t → t.length ≤ 3 → ¬ Good (LM base gn t)) ∨ ∃ t, incL W 0 t ∧ t.length ≤ 3 ∧ Good (LM base gn t) ∧ (∀ t', incL W 0 t' → t'.length < t.length → ¬ Good (LM base gn t')) ∧ (∀ t', incL W 0 t' → t'.length = t.length → Good (LM base gn t') → dgt t ≤ dgt t') ∧ v = (t.length : Int) ∧ r = (dgt t : Int)
def LITc (m : Nat) (cl : Nat → Nat) (base : Nat → Bool) (gn : Nat → Nat → Bool) (Good : (Nat → Bool) → Prop) (v r : Int) : Prop :=
  (v = -1 ∧ ∀ i, incL m 0 i → i.length ≤ 3 → ¬ Good (LM base gn (i.map cl))) ∨ ∃ i, incL m 0 i ∧ i.length ≤ 3 ∧ Good (LM base gn (i.map cl)) ∧ (∀ i', incL m 0 i' → i'.length < i.length → ¬ Good (LM base gn (i'.map cl))) ∧ (∀ i', incL m 0 i' → i'.length = i.length → Good (LM base gn (i'.map cl)) → dgt (i.map cl) ≤ dgt (i'.map cl)) ∧ v = (i.length : Int) ∧ r = (dgt (i.map cl) : Int)
theorem LITr_uniq {v r v' r' : Int} (h : LITr W base gn Good v r) (h' : LITr W base gn Good v' r') : v = v' ∧ (¬ v = -1 → r = r') := by
  rcases h with ⟨a1, a2⟩ | ⟨t, t1, t2, t3, t4, t5, t6, t7⟩
  · rcases h' with ⟨b1, b2⟩ | ⟨s, s1, s2, s3, s4, s5, s6, s7⟩
    · exact ⟨a1.trans b1.symm, fun q => absurd a1 q⟩
    · exact absurd s3 (a2 s s1 s2)
  · rcases h' with ⟨b1, b2⟩ | ⟨s, s1, s2, s3, s4, s5, s6, s7⟩
    · exact absurd t3 (b2 t t1 t2)
    · have e : t.length = s.length := by
        have k1 : ¬ s.length < t.length := fun q => t4 s s1 q s3
        have k2 : ¬ t.length < s.length := fun q => s4 t t1 q t3
        omega
      have d1 := t5 s s1 e.symm s3
      have d2 := s5 t t1 e t3
      exact ⟨by omega, fun _ => by omega⟩
theorem LITc_r (h1 : ∀ i, i < m → cl i < W) (h2 : ∀ i j, i < j → j < m → cl i < cl j) (h3 : ∀ x, x < W → (∀ c, gn x c = false) ∨ ∃ i, i < m ∧ cl i ≤ x ∧ ∀ c, gn (cl i) c = gn x c) {v r : Int} (h : LITc m cl base gn Good v r) : LITr W base gn Good v r := by
  -- a good row of fewest lamps, the first of these, is one of candidates
  have key : ∀ t, incL W 0 t → t.length ≤ 3 → Good (LM base gn t) → ∃ i, incL m 0 i ∧ i.length ≤ t.length ∧ Good (LM base gn (i.map cl)) := by
    intro t t1 t2 t3
    obtain ⟨s, ⟨s1, s2⟩, s3⟩ := min_ex (q := fun s => incL W 0 s ∧ Good (LM base gn s)) (fun s => s.length) (t.length + 1) t (Nat.lt_succ_self _) ⟨t1, t3⟩
    have hst := s3 t ⟨t1, t3⟩
    obtain ⟨u, ⟨u1, u2, u3⟩, u4⟩ := min_ex (q := fun u => incL W 0 u ∧ u.length = s.length ∧ Good (LM base gn u)) dgt (dgt s + 1) s (Nat.lt_succ_self _) ⟨s1, rfl, s2⟩
    obtain ⟨i, i1, i2, i3⟩ := lit_cand h3 h2 (n := s.length) (by omega) (fun t' a b c => by have := s3 t' ⟨a, c⟩; omega) u1 u2 u3 (fun t' a b c => u4 t' ⟨a, b, c⟩)
    exact ⟨i, i1, by omega, by rw [← i3]; exact u3⟩
  rcases h with ⟨a1, a2⟩ | ⟨i, i1, i2, i3, i4, i5, i6, i7⟩
  · refine Or.inl ⟨a1, fun t t1 t2 t3 => ?_⟩
    obtain ⟨j, j1, j2, j3⟩ := key t t1 t2 t3
    exact a2 j j1 (by omega) j3
  · have hl : (i.map cl).length = i.length := List.length_map cl
    have hm : incL W 0 (i.map cl) := incL_map h1 h2 i1 (fun _ _ _ => Nat.zero_le _)
    have hfew : ∀ t', incL W 0 t' → t'.length < i.length → ¬ Good (LM base gn t') := by
      intro t' a b c
      obtain ⟨j, j1, j2, j3⟩ := key t' a (by omega) c
      exact i4 j j1 (by omega) j3
    refine Or.inr ⟨i.map cl, hm, by omega, i3, fun t' a b => hfew t' a (by omega), fun t' a b c => ?_, by rw [hl]; exact i6, i7⟩
    obtain ⟨u, ⟨u1, u2, u3⟩, u4⟩ := min_ex (q := fun u => incL W 0 u ∧ u.length = i.length ∧ Good (LM base gn u)) dgt (dgt (i.map cl) + 1) (i.map cl) (Nat.lt_succ_self _) ⟨hm, hl, i3⟩
    obtain ⟨j, j1, j2, j3⟩ := lit_cand h3 h2 (n := i.length) i2 hfew u1 u2 u3 (fun t' a b c => u4 t' ⟨a, b, c⟩)
    have d1 := i5 j j1 j2 (by rw [← j3]; exact u3)
    have d2 := u4 t' ⟨a, by omega, c⟩
    rw [← j3] at d1
    omega
end
