theorem sk_y {B : Nat → Int} {n a : Nat} (c : a < n ∧ B a = 32) : sk B n a = sk B n (a + 1) := by rw [sk, if_pos c]
theorem sk_n {B : Nat → Int} {n a : Nat} (c : ¬ (a < n ∧ B a = 32)) : sk B n a = a := by rw [sk, if_neg c]
theorem wd_y {B : Nat → Int} {n a : Nat} (c : isA B n a 97 122) : wdE B n a = wdE B n (a + 1) := by rw [wdE, if_pos c]
theorem wd_n {B : Nat → Int} {n a : Nat} (c : ¬ isA B n a 97 122) : wdE B n a = a := by rw [wdE, if_neg c]
theorem nm_y {B : Nat → Int} {n a : Nat} {v : Int} (c : isA B n a 48 57) : nmE B n a v = nmE B n (a + 1) (if v * 10 + B a - 48 ≤ 1000000 then v * 10 + B a - 48 else 1000000) := by rw [nmE, if_pos c]
theorem nm_n {B : Nat → Int} {n a : Nat} {v : Int} (c : ¬ isA B n a 48 57) : nmE B n a v = (a, v) := by rw [nmE, if_neg c]
theorem sk_stop (B : Nat → Int) (n : Nat) : ∀ (f a : Nat), n - a < f → ¬ (sk B n a < n ∧ B (sk B n a) = 32)
  | 0, _, h => by omega
  | f + 1, a, h => by
    by_cases c : a < n ∧ B a = 32
    · rw [sk_y c]; exact sk_stop B n f (a + 1) (by omega)
    · rw [sk_n c]; exact c
theorem sk_sk (B : Nat → Int) (n a : Nat) : sk B n (sk B n a) = sk B n a := sk_n (sk_stop B n (n - a + 1) a (by omega))
theorem sk_in (B : Nat → Int) {n a : Nat} (h : a ≤ n) : a ≤ sk B n a ∧ sk B n a ≤ n := sk_le B n (n - a + 1) a (by omega) h
theorem wd_in' (B : Nat → Int) (n : Nat) : ∀ (f a : Nat), n - a < f → a ≤ n → a ≤ wdE B n a ∧ wdE B n a ≤ n
  | 0, _, h, _ => by omega
  | f + 1, a, h, ha => by
    by_cases c : isA B n a 97 122
    · rw [wd_y c]
      have := c.1
      have := wd_in' B n f (a + 1) (by omega) (by omega)
      omega
    · rw [wd_n c]; omega
theorem wd_in (B : Nat → Int) {n a : Nat} (h : a ≤ n) : a ≤ wdE B n a ∧ wdE B n a ≤ n := wd_in' B n (n - a + 1) a (by omega) h
theorem nm_in' (B : Nat → Int) (n : Nat) : ∀ (f a : Nat) (v : Int), n - a < f → a ≤ n → 0 ≤ v → (a ≤ (nmE B n a v).1 ∧ (nmE B n a v).1 ≤ n) ∧ 0 ≤ (nmE B n a v).2
  | 0, _, _, h, _, _ => by omega
  | f + 1, a, v, h, ha, hv => by
    by_cases c : isA B n a 48 57
    · rw [nm_y c]
      have := c.1
      have := c.2.1
      have := nm_in' B n f (a + 1) (if v * 10 + B a - 48 ≤ 1000000 then v * 10 + B a - 48 else 1000000) (by omega) (by omega) (by split <;> omega)
      omega
    · rw [nm_n c]; exact ⟨⟨Nat.le_refl _, ha⟩, hv⟩
theorem nm_in (B : Nat → Int) {n a : Nat} (h : a ≤ n) : (a ≤ (nmE B n a 0).1 ∧ (nmE B n a 0).1 ≤ n) ∧ 0 ≤ (nmE B n a 0).2 := nm_in' B n (n - a + 1) a 0 (by omega) h (by decide)
/-- the bytes of the class's tape, as numbers 0 to 255 -/
def BY (C B : Nat → Int) (n : Nat) : Prop := ∀ k, k < n → (0 ≤ B k ∧ B k < 256) ∧ C k = i2b (B k)
section
variable {C B : Nat → Int} {n : Nat}
theorem BY.ce (h : BY C B n) {a : Nat} (ha : a < n) {x : Int} (hx : 0 ≤ x ∧ x < 128) : C a = x ↔ B a = x := by
  have := h a ha
  rw [this.2]
  unfold i2b
  omega
theorem BY.ca (h : BY C B n) {a : Nat} {x y : Int} (hx : 0 ≤ x) (hy : y < 128) : isA C n a x y ↔ isA B n a x y := by
  by_cases ha : a < n
  · have := h a ha
    constructor
    · rintro ⟨h1, h2, h3⟩
      rw [this.2] at h2 h3
      unfold i2b at h2 h3
      exact ⟨h1, by omega, by omega⟩
    · rintro ⟨h1, h2, h3⟩
      refine ⟨h1, ?_, ?_⟩ <;> (rw [this.2]; unfold i2b; omega)
  · exact ⟨fun q => absurd q.1 ha, fun q => absurd q.1 ha⟩
theorem BY.cs' (h : BY C B n) : ∀ (f a : Nat), n - a < f → sk C n a = sk B n a
  | 0, _, q => by omega
  | f + 1, a, q => by
    by_cases c : a < n ∧ B a = 32
    · rw [sk_y c, sk_y ⟨c.1, (h.ce c.1 (by decide)).mpr c.2⟩]; exact BY.cs' h f (a + 1) (by omega)
    · rw [sk_n c, sk_n (fun q => c ⟨q.1, (h.ce q.1 (by decide)).mp q.2⟩)]
theorem BY.cs (h : BY C B n) (a : Nat) : sk C n a = sk B n a := h.cs' (n - a + 1) a (by omega)
theorem BY.cw' (h : BY C B n) : ∀ (f a : Nat), n - a < f → wdE C n a = wdE B n a
  | 0, _, q => by omega
  | f + 1, a, q => by
    by_cases c : isA B n a 97 122
    · rw [wd_y c, wd_y ((h.ca (by decide) (by decide)).mpr c)]; have := c.1; exact BY.cw' h f (a + 1) (by omega)
    · rw [wd_n c, wd_n (fun q => c ((h.ca (by decide) (by decide)).mp q))]
theorem BY.cw (h : BY C B n) (a : Nat) : wdE C n a = wdE B n a := h.cw' (n - a + 1) a (by omega)
theorem BY.cn' (h : BY C B n) : ∀ (f a : Nat) (v : Int), n - a < f → nmE C n a v = nmE B n a v
  | 0, _, _, q => by omega
  | f + 1, a, v, q => by
    by_cases c : isA B n a 48 57
    · have c2 := c.2
      have e : C a = B a := by
        have := h a c.1
        rw [this.2]
        unfold i2b
        omega
      rw [nm_y c, nm_y ((h.ca (by decide) (by decide)).mpr c), e]; have := c.1; exact BY.cn' h f (a + 1) _ (by omega)
    · rw [nm_n c, nm_n (fun q => c ((h.ca (by decide) (by decide)).mp q))]
theorem BY.cn (h : BY C B n) (a : Nat) (v : Int) : nmE C n a v = nmE B n a v := h.cn' (n - a + 1) a v (by omega)
theorem BY.ck (h : BY C B n) (t : TS) : skT C n t = skT B n t := by unfold skT; rw [h.cs]
theorem BY.cg (h : BY C B n) (t : TS) : goT C n t = goT B n t := by unfold goT; rw [h.ck]
theorem BY.cp (h : BY C B n) (t : TS) {x : Int} (hx : 0 ≤ x ∧ x < 128) : tsT C n t x = tsT B n t x := by
  unfold tsT
  rw [h.ck, h.cs]
  exact ite_congr rfl (fun _ => ite_congr (propext (h.ca hx.1 hx.2)) (fun _ => rfl) (fun _ => rfl)) (fun _ => rfl)
theorem BY.cv (h : BY C B n) (t : TS) : twT C n t = twT B n t := by unfold twT; rw [h.cs, h.cw]
theorem BY.cq (h : BY C B n) (t : TS) (lo hi : Int) : takeT C n t lo hi = takeT B n t lo hi := by unfold takeT; rw [h.cs, h.cn]
end
/-- the class's tape in the state t, over n bytes B -/
def TP (E : Mm) (B : Nat → Int) (n : Nat) (t : TS) : Prop := (n ≤ 600 ∧ t.2.1 ≤ t.1 ∧ t.1 ≤ n) ∧ E 1 2 = (n : Int) ∧ BY (E 2) B n ∧ E 1 3 = (t.1 : Int) ∧ E 1 4 = (t.2.1 : Int) ∧ E 1 5 = t.2.2.1 ∧ E 1 6 = t.2.2.2
/-- only what is read has moved -/
def TF (E E1 : Mm) : Prop := (∀ q, q ≠ 1 → E1 q = E q) ∧ ∀ k, ¬ (3 ≤ k ∧ k ≤ 6) → E1 1 k = E 1 k
theorem TF.rf {E : Mm} : TF E E := ⟨fun _ _ => rfl, fun _ _ => rfl⟩
theorem TF.tr {E E1 E2 : Mm} (h : TF E E1) (h2 : TF E1 E2) : TF E E2 := ⟨fun q hq => (h2.1 q hq).trans (h.1 q hq), fun k hk => (h2.2 k hk).trans (h.2 k hk)⟩
section
variable {E : Mm} {B : Nat → Int} {n : Nat} {t : TS}
theorem TP.tp (h : TP E B n t) : tpE E t = E := tp_self h.2.2.2.1 h.2.2.2.2.1 h.2.2.2.2.2.1 h.2.2.2.2.2.2
theorem TP.to (h : TP E B n t) {t' : TS} (ht : t'.2.1 ≤ t'.1 ∧ t'.1 ≤ n) : TP (tpE E t') B n t' ∧ TF E (tpE E t') :=
  ⟨⟨⟨h.1.1, ht⟩, h.2.1, h.2.2.1, rfl, rfl, rfl, rfl⟩, fun q hq => funext fun j => tp_o hq, fun k hk => by
    unfold tpE
    rw [if_pos rfl, if_neg (by omega), if_neg (by omega), if_neg (by omega), if_neg (by omega)]⟩
theorem TP.fr {E1 : Mm} (h : TP E B n t) (h1 : E1 1 = E 1) (h2 : E1 2 = E 2) : TP E1 B n t := by
  unfold TP at h ⊢
  rw [h1, h2]
  exact h
theorem skT_ok (h : t.1 ≤ n) : (skT B n t).2.1 ≤ (skT B n t).1 ∧ (skT B n t).1 ≤ n := ⟨Nat.le_refl _, (sk_in B h).2⟩
theorem goT_ok (h : t.2.1 ≤ t.1 ∧ t.1 ≤ n) : (goT B n t).2.1 ≤ (goT B n t).1 ∧ (goT B n t).1 ≤ n := by
  unfold goT
  split
  · exact skT_ok h.2
  · exact h
theorem flT_ok {k : Int} (h : t.2.1 ≤ t.1 ∧ t.1 ≤ n) : (flT t k).2.1 ≤ (flT t k).1 ∧ (flT t k).1 ≤ n := by
  unfold flT
  split <;> exact h
theorem tsT_ok {x : Int} (h : t.2.1 ≤ t.1 ∧ t.1 ≤ n) : (tsT B n t x).2.1 ≤ (tsT B n t x).1 ∧ (tsT B n t x).1 ≤ n := by
  unfold tsT
  split
  · split
    · rename_i c
      exact ⟨Nat.le_succ _, c.1⟩
    · exact flT_ok (skT_ok h.2)
  · exact h
theorem twT_ok (h : t.2.1 ≤ t.1 ∧ t.1 ≤ n) : (twT B n t).2.1 ≤ (twT B n t).1 ∧ (twT B n t).1 ≤ n := by
  unfold twT
  split
  · exact wd_in B (sk_in B h.2).2
  · exact h
theorem takeT_ok {lo hi : Int} (h : t.2.1 ≤ t.1 ∧ t.1 ≤ n) : (takeT B n t lo hi).2.2.1 ≤ (takeT B n t lo hi).2.1 ∧ (takeT B n t lo hi).2.1 ≤ n := by
  have := (nm_in B (sk_in B h.2).2).1
  unfold takeT
  split
  · split
    · exact flT_ok (t := ((nmE B n (sk B n t.1) 0).1, sk B n t.1, t.2.2)) this
    · split
      · exact this
      · exact flT_ok (t := ((nmE B n (sk B n t.1) 0).1, sk B n t.1, t.2.2)) this
  · exact h
end
theorem c10_goesOn {g : Gw} (hG : GF g) {z : Bool} (E : Mm) (B : Nat → Int) (n : Nat) (t : TS) (hT : TP E B n t) : CT g yX10_goesOn cX10_goesOn 1 (some .boolean) 1 20 0 0 K2 z [mR 1] (ov E) K2 z (fun r D' => r = some (mI (if t.2.2.1 = 0 ∧ sk B n t.1 < n then 1 else 0)) ∧ ∃ E1, D' = ov E1 ∧ TP E1 B n (goT B n t) ∧ TF E E1) := by
  have h := ct_X10_goesOn hG (z := z) E t n hT.2.1 hT.1.1
  rw [hT.2.2.1.cg t] at h
  rw [hT.2.2.1.cs t.1] at h
  rw [hT.tp] at h
  exact h.imp (fun r D' q => ⟨q.1, _, q.2, hT.to (goT_ok hT.1.2)⟩)
theorem c10_sees {g : Gw} (hG : GF g) {z : Bool} (E : Mm) (B : Nat → Int) (n : Nat) (t : TS) (hT : TP E B n t) (x : Int) (hx : 0 ≤ x ∧ x < 128) : CT g yX10_sees cX10_sees 2 (some .boolean) 1 22 0 0 K2 z [mR 1, mI x] (ov E) K2 z (fun r D' => r = some (mI (if t.2.2.1 = 0 ∧ isA B n (sk B n t.1) x x then 1 else 0)) ∧ ∃ E1, D' = ov E1 ∧ TP E1 B n (goT B n t) ∧ TF E E1) := by
  have h := ct_X10_sees hG (z := z) E t n hT.2.1 hT.1.1 x
  rw [hT.2.2.1.cg t] at h
  rw [hT.2.2.1.cs t.1] at h
  rw [hT.tp] at h
  exact h.imp (fun r D' q => ⟨q.1.trans (congrArg (fun v => some (mI v)) (ite_congr (propext (and_congr_right (fun _ => hT.2.2.1.ca hx.1 hx.2))) (fun _ => rfl) (fun _ => rfl))), _, q.2, hT.to (goT_ok hT.1.2)⟩)
theorem c10_seesDigit {g : Gw} (hG : GF g) {z : Bool} (E : Mm) (B : Nat → Int) (n : Nat) (t : TS) (hT : TP E B n t) : CT g yX10_seesDigit cX10_seesDigit 1 (some .boolean) 1 22 0 0 K2 z [mR 1] (ov E) K2 z (fun r D' => r = some (mI (if t.2.2.1 = 0 ∧ isA B n (sk B n t.1) 48 57 then 1 else 0)) ∧ ∃ E1, D' = ov E1 ∧ TP E1 B n (goT B n t) ∧ TF E E1) := by
  have h := ct_X10_seesDigit hG (z := z) E t n hT.2.1 hT.1.1
  rw [hT.2.2.1.cg t] at h
  rw [hT.2.2.1.cs t.1] at h
  rw [hT.tp] at h
  exact h.imp (fun r D' q => ⟨q.1.trans (congrArg (fun v => some (mI v)) (ite_congr (propext (and_congr_right (fun _ => hT.2.2.1.ca (by decide) (by decide)))) (fun _ => rfl) (fun _ => rfl))), _, q.2, hT.to (goT_ok hT.1.2)⟩)
theorem c10_takeSign {g : Gw} (hG : GF g) {z : Bool} (E : Mm) (B : Nat → Int) (n : Nat) (t : TS) (hT : TP E B n t) (x : Int) (hx : 0 ≤ x ∧ x < 128) : CT g yX10_takeSign cX10_takeSign 2 none 1 22 0 0 K2 z [mR 1, mI x] (ov E) K2 z (fun r D' => r = none ∧ ∃ E1, D' = ov E1 ∧ TP E1 B n (tsT B n t x) ∧ TF E E1) := by
  have h := ct_X10_takeSign hG (z := z) E t n hT.2.1 hT.1.1 hT.1.2.2 x
  rw [hT.2.2.1.cp t hx] at h
  rw [hT.tp] at h
  exact h.imp (fun r D' q => ⟨q.1, _, q.2, hT.to (tsT_ok hT.1.2)⟩)
theorem c10_takeNumber {g : Gw} (hG : GF g) {z : Bool} (E : Mm) (B : Nat → Int) (n : Nat) (t : TS) (hT : TP E B n t) (lo hi : Int) : CT g yX10_takeNumber cX10_takeNumber 4 (some .int) 1 22 0 0 K2 z [mR 1, mI lo, mI hi] (ov E) K2 z (fun r D' => r = some (mI (takeT B n t lo hi).1) ∧ ∃ E1, D' = ov E1 ∧ TP E1 B n (takeT B n t lo hi).2 ∧ TF E E1) := by
  have h := ct_X10_takeNumber hG (z := z) E t n hT.2.1 hT.1.1 lo hi
  rw [hT.2.2.1.cq t lo hi] at h
  rw [hT.tp] at h
  exact h.imp (fun r D' q => ⟨q.1, _, q.2, hT.to (takeT_ok hT.1.2)⟩)
theorem c10_takeWord {g : Gw} (hG : GF g) {z : Bool} (E : Mm) (B : Nat → Int) (n : Nat) (t : TS) (hT : TP E B n t) : CT g yX10_takeWord cX10_takeWord 1 none 1 22 0 0 K2 z [mR 1] (ov E) K2 z (fun r D' => r = none ∧ ∃ E1, D' = ov E1 ∧ TP E1 B n (twT B n t) ∧ TF E E1) := by
  have h := ct_X10_takeWord hG (z := z) E t n hT.2.1 hT.1.1
  rw [hT.2.2.1.cv t] at h
  rw [hT.tp] at h
  exact h.imp (fun r D' q => ⟨q.1, _, q.2, hT.to (twT_ok hT.1.2)⟩)
theorem c10_fail {g : Gw} (hG : GF g) {z : Bool} (E : Mm) (B : Nat → Int) (n : Nat) (t : TS) (hT : TP E B n t) (k : Int) : CT g yX10_fail cX10_fail 2 none 0 0 0 0 K2 z [mR 1, mI k] (ov E) K2 z (fun r D' => r = none ∧ ∃ E1, D' = ov E1 ∧ TP E1 B n (flT t k) ∧ TF E E1) := by
  have h := ct_X10_fail hG (z := z) E t k

  rw [hT.tp] at h
  exact h.imp (fun r D' q => ⟨q.1, _, q.2, hT.to (flT_ok hT.1.2)⟩)
theorem c10_failed {g : Gw} (hG : GF g) {z : Bool} (E : Mm) (B : Nat → Int) (n : Nat) (t : TS) (hT : TP E B n t) : CT g yX10_failed cX10_failed 1 (some .boolean) 0 0 0 0 K2 z [mR 1] (ov E) K2 z (fun r D' => r = some (mI (if t.2.2.1 = 0 then 0 else 1)) ∧ D' = ov E) := by
  have h := ct_X10_failed hG (z := z) E t
  rw [hT.tp] at h
  exact h
theorem c10_answer {g : Gw} (hG : GF g) {z : Bool} (E : Mm) (B : Nat → Int) (n : Nat) (t : TS) (hT : TP E B n t) (hk : 0 ≤ t.2.2.1 ∧ t.2.2.1 ≤ 1000) : CT g yX10_answer cX10_answer 1 (some .int) 0 0 0 0 K2 z [mR 1] (ov E) K2 z (fun r D' => r = some (mI (t.2.2.1 - 10)) ∧ D' = ov E) := by
  have h := ct_X10_answer hG (z := z) E t hk
  rw [hT.tp] at h
  exact h
/-- whether what was read last is this word -/
noncomputable def wdB (B : Nat → Int) (t : TS) (b : List Int) : Bool := @decide (t.1 = t.2.1 + b.length ∧ ∀ j, j < b.length → B (t.2.1 + j) = b.getD j 0) (Classical.propDecidable _)
theorem wdB_iff {B : Nat → Int} {t : TS} {b : List Int} : wdB B t b = true ↔ t.1 = t.2.1 + b.length ∧ ∀ j, j < b.length → B (t.2.1 + j) = b.getD j 0 := by unfold wdB; exact @decide_eq_true_iff _ (Classical.propDecidable _)
theorem dX10_isWord_0 : decode cX10_isWord 0 = .ok (.aload_n 0, 1) := by decide +kernel
theorem dX10_isWord_1 : decode cX10_isWord 1 = .ok (.getfield 31, 3) := by decide +kernel
theorem dX10_isWord_4 : decode cX10_isWord 4 = .ok (.aload_n 0, 1) := by decide +kernel
theorem dX10_isWord_5 : decode cX10_isWord 5 = .ok (.getfield 34, 3) := by decide +kernel
theorem dX10_isWord_8 : decode cX10_isWord 8 = .ok (.isub, 1) := by decide +kernel
theorem dX10_isWord_9 : decode cX10_isWord 9 = .ok (.aload_n 1, 1) := by decide +kernel
theorem dX10_isWord_10 : decode cX10_isWord 10 = .ok (.invokevirtual 56, 3) := by decide +kernel
theorem dX10_isWord_13 : decode cX10_isWord 13 = .ok (.if_icmp .eq 5, 3) := by decide +kernel
theorem dX10_isWord_16 : decode cX10_isWord 16 = .ok (.iconst 0, 1) := by decide +kernel
theorem dX10_isWord_17 : decode cX10_isWord 17 = .ok (.ireturn, 1) := by decide +kernel
theorem dX10_isWord_18 : decode cX10_isWord 18 = .ok (.iconst 0, 1) := by decide +kernel
theorem dX10_isWord_19 : decode cX10_isWord 19 = .ok (.istore_n 2, 1) := by decide +kernel
theorem dX10_isWord_20 : decode cX10_isWord 20 = .ok (.iload_n 2, 1) := by decide +kernel
theorem dX10_isWord_21 : decode cX10_isWord 21 = .ok (.aload_n 1, 1) := by decide +kernel
theorem dX10_isWord_22 : decode cX10_isWord 22 = .ok (.invokevirtual 56, 3) := by decide +kernel
theorem dX10_isWord_25 : decode cX10_isWord 25 = .ok (.if_icmp .ge 43, 3) := by decide +kernel
theorem dX10_isWord_28 : decode cX10_isWord 28 = .ok (.aload_n 0, 1) := by decide +kernel
theorem dX10_isWord_29 : decode cX10_isWord 29 = .ok (.getfield 34, 3) := by decide +kernel
theorem dX10_isWord_32 : decode cX10_isWord 32 = .ok (.iload_n 2, 1) := by decide +kernel
theorem dX10_isWord_33 : decode cX10_isWord 33 = .ok (.iadd, 1) := by decide +kernel
theorem dX10_isWord_34 : decode cX10_isWord 34 = .ok (.aload_n 0, 1) := by decide +kernel
theorem dX10_isWord_35 : decode cX10_isWord 35 = .ok (.getfield 28, 3) := by decide +kernel
theorem dX10_isWord_38 : decode cX10_isWord 38 = .ok (.if_icmp .ge 22, 3) := by decide +kernel
theorem dX10_isWord_41 : decode cX10_isWord 41 = .ok (.aload_n 0, 1) := by decide +kernel
theorem dX10_isWord_42 : decode cX10_isWord 42 = .ok (.getfield 9, 3) := by decide +kernel
theorem dX10_isWord_45 : decode cX10_isWord 45 = .ok (.aload_n 0, 1) := by decide +kernel
theorem dX10_isWord_46 : decode cX10_isWord 46 = .ok (.getfield 34, 3) := by decide +kernel
theorem dX10_isWord_49 : decode cX10_isWord 49 = .ok (.iload_n 2, 1) := by decide +kernel
theorem dX10_isWord_50 : decode cX10_isWord 50 = .ok (.iadd, 1) := by decide +kernel
theorem dX10_isWord_51 : decode cX10_isWord 51 = .ok (.baload, 1) := by decide +kernel
theorem dX10_isWord_52 : decode cX10_isWord 52 = .ok (.aload_n 1, 1) := by decide +kernel
theorem dX10_isWord_53 : decode cX10_isWord 53 = .ok (.iload_n 2, 1) := by decide +kernel
theorem dX10_isWord_54 : decode cX10_isWord 54 = .ok (.invokevirtual 62, 3) := by decide +kernel
theorem dX10_isWord_57 : decode cX10_isWord 57 = .ok (.if_icmp .eq 5, 3) := by decide +kernel
theorem dX10_isWord_60 : decode cX10_isWord 60 = .ok (.iconst 0, 1) := by decide +kernel
theorem dX10_isWord_61 : decode cX10_isWord 61 = .ok (.ireturn, 1) := by decide +kernel
theorem dX10_isWord_62 : decode cX10_isWord 62 = .ok (.iinc 2 1, 3) := by decide +kernel
theorem dX10_isWord_65 : decode cX10_isWord 65 = .ok (.goto (-45), 3) := by decide +kernel
theorem dX10_isWord_68 : decode cX10_isWord 68 = .ok (.iconst 1, 1) := by decide +kernel
theorem dX10_isWord_69 : decode cX10_isWord 69 = .ok (.ireturn, 1) := by decide +kernel
theorem ct_X10_isWord {g : Gw} (hG : GF g) {z : Bool} (E : Mm) (B : Nat → Int) (n : Nat) (t : TS) (hT : TP E B n t) (i : Nat) (b : List Int) (hi : STRB[i]? = some b) : CT g yX10_isWord cX10_isWord 3 (some .boolean) 4 85 0 0 K2 z [mR 1, mX (gT g i)] (ov E) K2 z (fun r D' => r = some (mI (if wdB B t b = true then 1 else 0)) ∧ D' = ov E) := by
  refine CT.mk hG (by decide +kernel) (Nat.le_of_ble_eq_true rfl) (fun κ X Rt _ ok => ?_)
  have hn := hT.1
  have hbl := (strb_len i b hi).1
  refine at_aload_n 1 X rfl rfl dX10_isWord_0 rfl ?_
  refine m_getIV 4 X ((t.1 : Nat) : Int) hT.2.2.2.1 f_X10_31 k_1 rn_1_3 dX10_isWord_1 rfl ?_
  refine at_aload_n 5 X rfl rfl dX10_isWord_4 rfl ?_
  refine m_getIV 8 X ((t.2.1 : Nat) : Int) hT.2.2.2.2.1 f_X10_34 k_1 rn_1_4 dX10_isWord_5 rfl ?_
  refine at_isubV 9 X ((t.1 - t.2.1 : Nat) : Int) (w32_v (by omega) (by omega) (by omega)) dX10_isWord_8 rfl ?_
  refine at_xload_n 10 X rfl rfl dX10_isWord_9 rfl ?_
  refine at_callO 13 X hi (ct_J0_length_8abf5 hG i b hi) rfl mo_J0_length_8abf5 w_971 vo_J0_length_8abf5.1 vo_J0_length_8abf5.2 rfl rfl (crm Rt (by decide)) (Nat.le_of_ble_eq_true rfl) dX10_isWord_10 rfl ?_
  rintro _ _ ⟨rfl, rfl⟩
  refine at_icmp_eq 16 18 X dX10_isWord_13 rfl (by decide) (fun h13 => ?_) (fun h13 => ?_)
  · refine at_iconst 19 X (by decide) dX10_isWord_18 rfl ?_
    refine at_istore_n 20 X rfl dX10_isWord_19 rfl (by decide) ?_
    have J20 : ∀ (f20 : Nat) (j : Nat), 100 - j < f20 → (j ≤ b.length) → (t.1 = t.2.1 + b.length) → ((∀ k, k < j → B (t.2.1 + k) = b.getD k 0)) → AT g κ K2 z 0 0 20 [(0, mR 1), (1, mX (gT g i)), (2, mI ((j : Nat) : Int))] [] (ov E) := by
      intro f20
      induction f20 with
      | zero => intro j hf20; omega
      | succ f20 ih20 =>
      intro j hf20 hj hlen hall
      refine at_iload_n 21 X rfl rfl dX10_isWord_20 rfl ?_
      refine at_xload_n 22 X rfl rfl dX10_isWord_21 rfl ?_
      refine at_callO 25 X hi (ct_J0_length_8abf5 hG i b hi) rfl mo_J0_length_8abf5 w_971 vo_J0_length_8abf5.1 vo_J0_length_8abf5.2 rfl rfl (crm Rt (by decide)) (Nat.le_of_ble_eq_true rfl) dX10_isWord_22 rfl ?_
      rintro _ _ ⟨rfl, rfl⟩
      refine at_icmp_ge 28 68 X dX10_isWord_25 rfl (by decide) (fun h25 => ?_) (fun h25 => ?_)
      · refine at_iconst 69 X (by decide) dX10_isWord_68 rfl ?_
        refine at_zret X Rt ?_ (by first | decide | (split <;> decide)) (Nat.le_refl _) (Nat.le_refl _) dX10_isWord_69
        exact ⟨by rw [if_pos (wdB_iff.mpr ⟨hlen, fun k hk => hall k (by omega)⟩)], rfl⟩
      · refine at_aload_n 29 X rfl rfl dX10_isWord_28 rfl ?_
        refine m_getIV 32 X ((t.2.1 : Nat) : Int) hT.2.2.2.2.1 f_X10_34 k_1 rn_1_4 dX10_isWord_29 rfl ?_
        refine at_iload_n 33 X rfl rfl dX10_isWord_32 rfl ?_
        refine at_iaddV 34 X ((t.2.1 + j : Nat) : Int) (w32_v (by omega) (by omega) (by omega)) dX10_isWord_33 rfl ?_
        refine at_aload_n 35 X rfl rfl dX10_isWord_34 rfl ?_
        refine m_getIV 38 X ((n : Nat) : Int) hT.2.1 f_X10_28 k_1 rn_1_2 dX10_isWord_35 rfl ?_
        refine at_icmp_ge 41 60 X dX10_isWord_38 rfl (by decide) (fun h38 => ?_) (fun h38 => ?_)
        · refine at_iconst 61 X (by decide) dX10_isWord_60 rfl ?_
          refine at_zret X Rt ?_ (by first | decide | (split <;> decide)) (Nat.le_refl _) (Nat.le_refl _) dX10_isWord_61
          exact ⟨by rw [if_neg (fun q => by have q := wdB_iff.mp q; have q1 := q.1; first | omega | (have q2 := q.2 j (by omega); omega))], rfl⟩
        · refine at_aload_n 42 X rfl rfl dX10_isWord_41 rfl ?_
          refine m_getR 45 X f_X10_9 k_1 r_1_0 dX10_isWord_42 rfl ?_
          refine at_aload_n 46 X rfl rfl dX10_isWord_45 rfl ?_
          refine m_getIV 49 X ((t.2.1 : Nat) : Int) hT.2.2.2.2.1 f_X10_34 k_1 rn_1_4 dX10_isWord_46 rfl ?_
          refine at_iload_n 50 X rfl rfl dX10_isWord_49 rfl ?_
          refine at_iaddV 51 X ((t.2.1 + j : Nat) : Int) (w32_v (by omega) (by omega) (by omega)) dX10_isWord_50 rfl ?_
          refine m_baloadV 52 X (t.2.1 + j) (by omega) (E 2 (t.2.1 + j)) rfl k_2 e_2 (by omega) dX10_isWord_51 rfl ?_
          have hby := (hT.2.2.1 (t.2.1 + j) (by omega)).1
          have hby2 := (hT.2.2.1 (t.2.1 + j) (by omega)).2
          unfold i2b at hby2
          refine at_xload_n 53 X rfl rfl dX10_isWord_52 rfl ?_
          refine at_iload_n 54 X rfl rfl dX10_isWord_53 rfl ?_
          have hcj := (strb_len i b hi).2 j (by omega)
          refine at_callO 57 X hi (ct_J0_charAt_5068e hG i b hi j (by omega)) rfl mo_J0_charAt_5068e w_981 vo_J0_charAt_5068e.1 vo_J0_charAt_5068e.2 rfl rfl (crm Rt (by decide)) (Nat.le_of_ble_eq_true rfl) dX10_isWord_54 rfl ?_
          rintro _ _ ⟨rfl, rfl⟩
          refine at_icmp_eq 60 62 X dX10_isWord_57 rfl (by decide) (fun h57 => ?_) (fun h57 => ?_)
          · refine at_iincV 65 X ((j + 1 : Nat) : Int) (w32_v (by omega) (by omega) (by omega)) rfl dX10_isWord_62 rfl (by decide) ?_
            refine at_goto 20 X dX10_isWord_65 (by decide) ?_
            exact at_sub _ (by exact ⟨rfl, rfl, rfl, trivial⟩) (ih20 (j + 1) (by first | omega | (simp only [] at *; omega)) (by first | omega | assumption) (by first | omega | assumption) (fun k hk => if c : k = j then by rw [c]; omega else hall k (by omega)))
          · refine at_iconst 61 X (by decide) dX10_isWord_60 rfl ?_
            refine at_zret X Rt ?_ (by first | decide | (split <;> decide)) (Nat.le_refl _) (Nat.le_refl _) dX10_isWord_61
            exact ⟨by rw [if_neg (fun q => by have q := wdB_iff.mp q; have q1 := q.1; first | omega | (have q2 := q.2 j (by omega); omega))], rfl⟩
    exact at_sub _ (by exact ⟨rfl, rfl, rfl, trivial⟩) (J20 _ 0 (Nat.lt_succ_self _) (by first | omega | assumption | rfl) (by omega) (fun k hk => absurd hk (Nat.not_lt_zero k)))
  · refine at_iconst 17 X (by decide) dX10_isWord_16 rfl ?_
    refine at_zret X Rt ?_ (by first | decide | (split <;> decide)) (Nat.le_refl _) (Nat.le_refl _) dX10_isWord_17
    exact ⟨by rw [if_neg (fun q => by have q := wdB_iff.mp q; have q1 := q.1; first | omega | (have q2 := q.2 j (by omega); omega))], rfl⟩
/-- what a clause is by its word -/
noncomputable def kdW (B : Nat → Int) (t : TS) : Int := if wdB B t [119, 105, 100, 101] = true then 1 else if wdB B t [112, 111, 115, 116] = true then 2 else if wdB B t [115, 117, 110] = true then 3 else if wdB B t [100, 117, 115, 107] = true then 4 else if wdB B t [109, 111, 111, 110] = true then 5 else if wdB B t [99, 108, 111, 117, 100] = true then 6 else if wdB B t [108, 97, 109, 112] = true then 7 else if wdB B t [98, 101, 97, 109] = true then 8 else if wdB B t [108, 111, 97, 100] = true then 9 else 0
theorem dX9_kindOf_0 : decode cX9_kindOf 0 = .ok (.aload_n 0, 1) := by decide +kernel
theorem dX9_kindOf_1 : decode cX9_kindOf 1 = .ok (.ldc 114, 2) := by decide +kernel
theorem dX9_kindOf_3 : decode cX9_kindOf 3 = .ok (.invokevirtual 115, 3) := by decide +kernel
theorem dX9_kindOf_6 : decode cX9_kindOf 6 = .ok (.ifCond .eq 5, 3) := by decide +kernel
theorem dX9_kindOf_9 : decode cX9_kindOf 9 = .ok (.iconst 1, 1) := by decide +kernel
theorem dX9_kindOf_10 : decode cX9_kindOf 10 = .ok (.ireturn, 1) := by decide +kernel
theorem dX9_kindOf_11 : decode cX9_kindOf 11 = .ok (.aload_n 0, 1) := by decide +kernel
theorem dX9_kindOf_12 : decode cX9_kindOf 12 = .ok (.ldc 119, 2) := by decide +kernel
theorem dX9_kindOf_14 : decode cX9_kindOf 14 = .ok (.invokevirtual 115, 3) := by decide +kernel
theorem dX9_kindOf_17 : decode cX9_kindOf 17 = .ok (.ifCond .eq 5, 3) := by decide +kernel
theorem dX9_kindOf_20 : decode cX9_kindOf 20 = .ok (.iconst 2, 1) := by decide +kernel
theorem dX9_kindOf_21 : decode cX9_kindOf 21 = .ok (.ireturn, 1) := by decide +kernel
theorem dX9_kindOf_22 : decode cX9_kindOf 22 = .ok (.aload_n 0, 1) := by decide +kernel
theorem dX9_kindOf_23 : decode cX9_kindOf 23 = .ok (.ldc 121, 2) := by decide +kernel
theorem dX9_kindOf_25 : decode cX9_kindOf 25 = .ok (.invokevirtual 115, 3) := by decide +kernel
theorem dX9_kindOf_28 : decode cX9_kindOf 28 = .ok (.ifCond .eq 5, 3) := by decide +kernel
theorem dX9_kindOf_31 : decode cX9_kindOf 31 = .ok (.iconst 3, 1) := by decide +kernel
theorem dX9_kindOf_32 : decode cX9_kindOf 32 = .ok (.ireturn, 1) := by decide +kernel
theorem dX9_kindOf_33 : decode cX9_kindOf 33 = .ok (.aload_n 0, 1) := by decide +kernel
theorem dX9_kindOf_34 : decode cX9_kindOf 34 = .ok (.ldc 123, 2) := by decide +kernel
theorem dX9_kindOf_36 : decode cX9_kindOf 36 = .ok (.invokevirtual 115, 3) := by decide +kernel
theorem dX9_kindOf_39 : decode cX9_kindOf 39 = .ok (.ifCond .eq 5, 3) := by decide +kernel
theorem dX9_kindOf_42 : decode cX9_kindOf 42 = .ok (.iconst 4, 1) := by decide +kernel
theorem dX9_kindOf_43 : decode cX9_kindOf 43 = .ok (.ireturn, 1) := by decide +kernel
theorem dX9_kindOf_44 : decode cX9_kindOf 44 = .ok (.aload_n 0, 1) := by decide +kernel
theorem dX9_kindOf_45 : decode cX9_kindOf 45 = .ok (.ldc 124, 2) := by decide +kernel
theorem dX9_kindOf_47 : decode cX9_kindOf 47 = .ok (.invokevirtual 115, 3) := by decide +kernel
theorem dX9_kindOf_50 : decode cX9_kindOf 50 = .ok (.ifCond .eq 5, 3) := by decide +kernel
theorem dX9_kindOf_53 : decode cX9_kindOf 53 = .ok (.iconst 5, 1) := by decide +kernel
theorem dX9_kindOf_54 : decode cX9_kindOf 54 = .ok (.ireturn, 1) := by decide +kernel
theorem dX9_kindOf_55 : decode cX9_kindOf 55 = .ok (.aload_n 0, 1) := by decide +kernel
theorem dX9_kindOf_56 : decode cX9_kindOf 56 = .ok (.ldc 126, 2) := by decide +kernel
theorem dX9_kindOf_58 : decode cX9_kindOf 58 = .ok (.invokevirtual 115, 3) := by decide +kernel
theorem dX9_kindOf_61 : decode cX9_kindOf 61 = .ok (.ifCond .eq 6, 3) := by decide +kernel
theorem dX9_kindOf_64 : decode cX9_kindOf 64 = .ok (.bipush 6, 2) := by decide +kernel
theorem dX9_kindOf_66 : decode cX9_kindOf 66 = .ok (.ireturn, 1) := by decide +kernel
theorem dX9_kindOf_67 : decode cX9_kindOf 67 = .ok (.aload_n 0, 1) := by decide +kernel
theorem dX9_kindOf_68 : decode cX9_kindOf 68 = .ok (.ldc 128, 2) := by decide +kernel
theorem dX9_kindOf_70 : decode cX9_kindOf 70 = .ok (.invokevirtual 115, 3) := by decide +kernel
theorem dX9_kindOf_73 : decode cX9_kindOf 73 = .ok (.ifCond .eq 6, 3) := by decide +kernel
theorem dX9_kindOf_76 : decode cX9_kindOf 76 = .ok (.bipush 7, 2) := by decide +kernel
theorem dX9_kindOf_78 : decode cX9_kindOf 78 = .ok (.ireturn, 1) := by decide +kernel
theorem dX9_kindOf_79 : decode cX9_kindOf 79 = .ok (.aload_n 0, 1) := by decide +kernel
theorem dX9_kindOf_80 : decode cX9_kindOf 80 = .ok (.ldc 130, 2) := by decide +kernel
theorem dX9_kindOf_82 : decode cX9_kindOf 82 = .ok (.invokevirtual 115, 3) := by decide +kernel
theorem dX9_kindOf_85 : decode cX9_kindOf 85 = .ok (.ifCond .eq 6, 3) := by decide +kernel
theorem dX9_kindOf_88 : decode cX9_kindOf 88 = .ok (.bipush 8, 2) := by decide +kernel
theorem dX9_kindOf_90 : decode cX9_kindOf 90 = .ok (.ireturn, 1) := by decide +kernel
theorem dX9_kindOf_91 : decode cX9_kindOf 91 = .ok (.aload_n 0, 1) := by decide +kernel
theorem dX9_kindOf_92 : decode cX9_kindOf 92 = .ok (.ldc 132, 2) := by decide +kernel
theorem dX9_kindOf_94 : decode cX9_kindOf 94 = .ok (.invokevirtual 115, 3) := by decide +kernel
theorem dX9_kindOf_97 : decode cX9_kindOf 97 = .ok (.ifCond .eq 8, 3) := by decide +kernel
theorem dX9_kindOf_100 : decode cX9_kindOf 100 = .ok (.bipush 9, 2) := by decide +kernel
theorem dX9_kindOf_102 : decode cX9_kindOf 102 = .ok (.goto 4, 3) := by decide +kernel
theorem dX9_kindOf_105 : decode cX9_kindOf 105 = .ok (.iconst 0, 1) := by decide +kernel
theorem dX9_kindOf_106 : decode cX9_kindOf 106 = .ok (.ireturn, 1) := by decide +kernel
theorem ct_X9_kindOf {g : Gw} (hG : GF g) {z : Bool} (E : Mm) (B : Nat → Int) (n : Nat) (t : TS) (hT : TP E B n t) : CT g yX9_kindOf cX9_kindOf 1 (some .int) 5 107 0 0 K2 z [mR 1] (ov E) K2 z (fun r D' => r = some (mI (kdW B t)) ∧ D' = ov E) := by
  refine CT.mk hG (by decide +kernel) (Nat.le_of_ble_eq_true rfl) (fun κ X Rt _ ok => ?_)
  refine at_aload_n 1 X rfl rfl dX9_kindOf_0 rfl ?_
  refine at_ldcS 3 X 0 (by rfl) dX9_kindOf_1 rfl ?_
  refine at_callV 6 X _ 10 (ct_X10_isWord hG E B n t hT 0 [119, 105, 100, 101] rfl) clX10 rfl k_1 mo_X10_isWord w_967 vo_X10_isWord.1 vo_X10_isWord.2 rfl rfl (crm Rt (by decide)) (Nat.le_of_ble_eq_true rfl) dX9_kindOf_3 rfl ?_
  rintro _ _ ⟨rfl, rfl⟩
  refine at_if_eq 9 11 X dX9_kindOf_6 rfl (by decide) (fun h0 => ?_) (fun h0 => ?_)
  · have h0 : ¬ wdB B t [119, 105, 100, 101] = true := ite_no.mp h0
    refine at_aload_n 12 X rfl rfl dX9_kindOf_11 rfl ?_
    refine at_ldcS 14 X 1 (by rfl) dX9_kindOf_12 rfl ?_
    refine at_callV 17 X _ 10 (ct_X10_isWord hG E B n t hT 1 [112, 111, 115, 116] rfl) clX10 rfl k_1 mo_X10_isWord w_967 vo_X10_isWord.1 vo_X10_isWord.2 rfl rfl (crm Rt (by decide)) (Nat.le_of_ble_eq_true rfl) dX9_kindOf_14 rfl ?_
    rintro _ _ ⟨rfl, rfl⟩
    refine at_if_eq 20 22 X dX9_kindOf_17 rfl (by decide) (fun h1 => ?_) (fun h1 => ?_)
    · have h1 : ¬ wdB B t [112, 111, 115, 116] = true := ite_no.mp h1
      refine at_aload_n 23 X rfl rfl dX9_kindOf_22 rfl ?_
      refine at_ldcS 25 X 2 (by rfl) dX9_kindOf_23 rfl ?_
      refine at_callV 28 X _ 10 (ct_X10_isWord hG E B n t hT 2 [115, 117, 110] rfl) clX10 rfl k_1 mo_X10_isWord w_967 vo_X10_isWord.1 vo_X10_isWord.2 rfl rfl (crm Rt (by decide)) (Nat.le_of_ble_eq_true rfl) dX9_kindOf_25 rfl ?_
      rintro _ _ ⟨rfl, rfl⟩
      refine at_if_eq 31 33 X dX9_kindOf_28 rfl (by decide) (fun h2 => ?_) (fun h2 => ?_)
      · have h2 : ¬ wdB B t [115, 117, 110] = true := ite_no.mp h2
        refine at_aload_n 34 X rfl rfl dX9_kindOf_33 rfl ?_
        refine at_ldcS 36 X 3 (by rfl) dX9_kindOf_34 rfl ?_
        refine at_callV 39 X _ 10 (ct_X10_isWord hG E B n t hT 3 [100, 117, 115, 107] rfl) clX10 rfl k_1 mo_X10_isWord w_967 vo_X10_isWord.1 vo_X10_isWord.2 rfl rfl (crm Rt (by decide)) (Nat.le_of_ble_eq_true rfl) dX9_kindOf_36 rfl ?_
        rintro _ _ ⟨rfl, rfl⟩
        refine at_if_eq 42 44 X dX9_kindOf_39 rfl (by decide) (fun h3 => ?_) (fun h3 => ?_)
        · have h3 : ¬ wdB B t [100, 117, 115, 107] = true := ite_no.mp h3
          refine at_aload_n 45 X rfl rfl dX9_kindOf_44 rfl ?_
          refine at_ldcS 47 X 4 (by rfl) dX9_kindOf_45 rfl ?_
          refine at_callV 50 X _ 10 (ct_X10_isWord hG E B n t hT 4 [109, 111, 111, 110] rfl) clX10 rfl k_1 mo_X10_isWord w_967 vo_X10_isWord.1 vo_X10_isWord.2 rfl rfl (crm Rt (by decide)) (Nat.le_of_ble_eq_true rfl) dX9_kindOf_47 rfl ?_
          rintro _ _ ⟨rfl, rfl⟩
          refine at_if_eq 53 55 X dX9_kindOf_50 rfl (by decide) (fun h4 => ?_) (fun h4 => ?_)
          · have h4 : ¬ wdB B t [109, 111, 111, 110] = true := ite_no.mp h4
            refine at_aload_n 56 X rfl rfl dX9_kindOf_55 rfl ?_
            refine at_ldcS 58 X 5 (by rfl) dX9_kindOf_56 rfl ?_
            refine at_callV 61 X _ 10 (ct_X10_isWord hG E B n t hT 5 [99, 108, 111, 117, 100] rfl) clX10 rfl k_1 mo_X10_isWord w_967 vo_X10_isWord.1 vo_X10_isWord.2 rfl rfl (crm Rt (by decide)) (Nat.le_of_ble_eq_true rfl) dX9_kindOf_58 rfl ?_
            rintro _ _ ⟨rfl, rfl⟩
            refine at_if_eq 64 67 X dX9_kindOf_61 rfl (by decide) (fun h5 => ?_) (fun h5 => ?_)
            · have h5 : ¬ wdB B t [99, 108, 111, 117, 100] = true := ite_no.mp h5
              refine at_aload_n 68 X rfl rfl dX9_kindOf_67 rfl ?_
              refine at_ldcS 70 X 6 (by rfl) dX9_kindOf_68 rfl ?_
              refine at_callV 73 X _ 10 (ct_X10_isWord hG E B n t hT 6 [108, 97, 109, 112] rfl) clX10 rfl k_1 mo_X10_isWord w_967 vo_X10_isWord.1 vo_X10_isWord.2 rfl rfl (crm Rt (by decide)) (Nat.le_of_ble_eq_true rfl) dX9_kindOf_70 rfl ?_
              rintro _ _ ⟨rfl, rfl⟩
              refine at_if_eq 76 79 X dX9_kindOf_73 rfl (by decide) (fun h6 => ?_) (fun h6 => ?_)
              · have h6 : ¬ wdB B t [108, 97, 109, 112] = true := ite_no.mp h6
                refine at_aload_n 80 X rfl rfl dX9_kindOf_79 rfl ?_
                refine at_ldcS 82 X 7 (by rfl) dX9_kindOf_80 rfl ?_
                refine at_callV 85 X _ 10 (ct_X10_isWord hG E B n t hT 7 [98, 101, 97, 109] rfl) clX10 rfl k_1 mo_X10_isWord w_967 vo_X10_isWord.1 vo_X10_isWord.2 rfl rfl (crm Rt (by decide)) (Nat.le_of_ble_eq_true rfl) dX9_kindOf_82 rfl ?_
                rintro _ _ ⟨rfl, rfl⟩
                refine at_if_eq 88 91 X dX9_kindOf_85 rfl (by decide) (fun h7 => ?_) (fun h7 => ?_)
                · have h7 : ¬ wdB B t [98, 101, 97, 109] = true := ite_no.mp h7
                  refine at_aload_n 92 X rfl rfl dX9_kindOf_91 rfl ?_
                  refine at_ldcS 94 X 8 (by rfl) dX9_kindOf_92 rfl ?_
                  refine at_callV 97 X _ 10 (ct_X10_isWord hG E B n t hT 8 [108, 111, 97, 100] rfl) clX10 rfl k_1 mo_X10_isWord w_967 vo_X10_isWord.1 vo_X10_isWord.2 rfl rfl (crm Rt (by decide)) (Nat.le_of_ble_eq_true rfl) dX9_kindOf_94 rfl ?_
                  rintro _ _ ⟨rfl, rfl⟩
                  refine at_if_eq 100 105 X dX9_kindOf_97 rfl (by decide) (fun h8 => ?_) (fun h8 => ?_)
                  · have h8 : ¬ wdB B t [108, 111, 97, 100] = true := ite_no.mp h8
                    refine at_iconst 106 X (by decide) dX9_kindOf_105 rfl ?_
                    exact at_iret X Rt ⟨by unfold kdW; rw [if_neg h0, if_neg h1, if_neg h2, if_neg h3, if_neg h4, if_neg h5, if_neg h6, if_neg h7, if_neg h8], rfl⟩ (Nat.le_refl _) (Nat.le_refl _) dX9_kindOf_106
                  · have h8 : wdB B t [108, 111, 97, 100] = true := ite_yes.mp h8
                    refine at_bipush 102 X (by decide) (by decide) dX9_kindOf_100 rfl ?_
                    refine at_goto 106 X dX9_kindOf_102 (by decide) ?_
                    exact at_iret X Rt ⟨by unfold kdW; rw [if_neg h0, if_neg h1, if_neg h2, if_neg h3, if_neg h4, if_neg h5, if_neg h6, if_neg h7, if_pos h8], rfl⟩ (Nat.le_refl _) (Nat.le_refl _) dX9_kindOf_106
                · have h7 : wdB B t [98, 101, 97, 109] = true := ite_yes.mp h7
                  refine at_bipush 90 X (by decide) (by decide) dX9_kindOf_88 rfl ?_
                  exact at_iret X Rt ⟨by unfold kdW; rw [if_neg h0, if_neg h1, if_neg h2, if_neg h3, if_neg h4, if_neg h5, if_neg h6, if_pos h7], rfl⟩ (Nat.le_refl _) (Nat.le_refl _) dX9_kindOf_90
              · have h6 : wdB B t [108, 97, 109, 112] = true := ite_yes.mp h6
                refine at_bipush 78 X (by decide) (by decide) dX9_kindOf_76 rfl ?_
                exact at_iret X Rt ⟨by unfold kdW; rw [if_neg h0, if_neg h1, if_neg h2, if_neg h3, if_neg h4, if_neg h5, if_pos h6], rfl⟩ (Nat.le_refl _) (Nat.le_refl _) dX9_kindOf_78
            · have h5 : wdB B t [99, 108, 111, 117, 100] = true := ite_yes.mp h5
              refine at_bipush 66 X (by decide) (by decide) dX9_kindOf_64 rfl ?_
              exact at_iret X Rt ⟨by unfold kdW; rw [if_neg h0, if_neg h1, if_neg h2, if_neg h3, if_neg h4, if_pos h5], rfl⟩ (Nat.le_refl _) (Nat.le_refl _) dX9_kindOf_66
          · have h4 : wdB B t [109, 111, 111, 110] = true := ite_yes.mp h4
            refine at_iconst 54 X (by decide) dX9_kindOf_53 rfl ?_
            exact at_iret X Rt ⟨by unfold kdW; rw [if_neg h0, if_neg h1, if_neg h2, if_neg h3, if_pos h4], rfl⟩ (Nat.le_refl _) (Nat.le_refl _) dX9_kindOf_54
        · have h3 : wdB B t [100, 117, 115, 107] = true := ite_yes.mp h3
          refine at_iconst 43 X (by decide) dX9_kindOf_42 rfl ?_
          exact at_iret X Rt ⟨by unfold kdW; rw [if_neg h0, if_neg h1, if_neg h2, if_pos h3], rfl⟩ (Nat.le_refl _) (Nat.le_refl _) dX9_kindOf_43
      · have h2 : wdB B t [115, 117, 110] = true := ite_yes.mp h2
        refine at_iconst 32 X (by decide) dX9_kindOf_31 rfl ?_
        exact at_iret X Rt ⟨by unfold kdW; rw [if_neg h0, if_neg h1, if_pos h2], rfl⟩ (Nat.le_refl _) (Nat.le_refl _) dX9_kindOf_32
    · have h1 : wdB B t [112, 111, 115, 116] = true := ite_yes.mp h1
      refine at_iconst 21 X (by decide) dX9_kindOf_20 rfl ?_
      exact at_iret X Rt ⟨by unfold kdW; rw [if_neg h0, if_pos h1], rfl⟩ (Nat.le_refl _) (Nat.le_refl _) dX9_kindOf_21
  · have h0 : wdB B t [119, 105, 100, 101] = true := ite_yes.mp h0
    refine at_iconst 10 X (by decide) dX9_kindOf_9 rfl ?_
    exact at_iret X Rt ⟨by unfold kdW; rw [if_pos h0], rfl⟩ (Nat.le_refl _) (Nat.le_refl _) dX9_kindOf_10
/-- what a unit is by its word -/
noncomputable def woW (B : Nat → Int) (t : TS) : Int := if wdB B t [115, 104, 97, 100, 101, 115] = true then 1 else if wdB B t [116, 97, 108, 108] = true then 2 else if wdB B t [104, 111, 117, 114] = true then 3 else if wdB B t [108, 97, 109, 112] = true then 4 else if wdB B t [108, 101, 97, 115, 116] = true then 9 else if wdB B t [109, 111, 115, 116] = true then 10 else 11
theorem dX7_wordOf_0 : decode cX7_wordOf 0 = .ok (.aload_n 0, 1) := by decide +kernel
theorem dX7_wordOf_1 : decode cX7_wordOf 1 = .ok (.ldc 83, 2) := by decide +kernel
theorem dX7_wordOf_3 : decode cX7_wordOf 3 = .ok (.invokevirtual 85, 3) := by decide +kernel
theorem dX7_wordOf_6 : decode cX7_wordOf 6 = .ok (.ifCond .eq 5, 3) := by decide +kernel
theorem dX7_wordOf_9 : decode cX7_wordOf 9 = .ok (.iconst 1, 1) := by decide +kernel
theorem dX7_wordOf_10 : decode cX7_wordOf 10 = .ok (.ireturn, 1) := by decide +kernel
theorem dX7_wordOf_11 : decode cX7_wordOf 11 = .ok (.aload_n 0, 1) := by decide +kernel
theorem dX7_wordOf_12 : decode cX7_wordOf 12 = .ok (.ldc 89, 2) := by decide +kernel
theorem dX7_wordOf_14 : decode cX7_wordOf 14 = .ok (.invokevirtual 85, 3) := by decide +kernel
theorem dX7_wordOf_17 : decode cX7_wordOf 17 = .ok (.ifCond .eq 5, 3) := by decide +kernel
theorem dX7_wordOf_20 : decode cX7_wordOf 20 = .ok (.iconst 2, 1) := by decide +kernel
theorem dX7_wordOf_21 : decode cX7_wordOf 21 = .ok (.ireturn, 1) := by decide +kernel
theorem dX7_wordOf_22 : decode cX7_wordOf 22 = .ok (.aload_n 0, 1) := by decide +kernel
theorem dX7_wordOf_23 : decode cX7_wordOf 23 = .ok (.ldc 91, 2) := by decide +kernel
theorem dX7_wordOf_25 : decode cX7_wordOf 25 = .ok (.invokevirtual 85, 3) := by decide +kernel
theorem dX7_wordOf_28 : decode cX7_wordOf 28 = .ok (.ifCond .eq 5, 3) := by decide +kernel
theorem dX7_wordOf_31 : decode cX7_wordOf 31 = .ok (.iconst 3, 1) := by decide +kernel
theorem dX7_wordOf_32 : decode cX7_wordOf 32 = .ok (.ireturn, 1) := by decide +kernel
theorem dX7_wordOf_33 : decode cX7_wordOf 33 = .ok (.aload_n 0, 1) := by decide +kernel
theorem dX7_wordOf_34 : decode cX7_wordOf 34 = .ok (.ldc 93, 2) := by decide +kernel
theorem dX7_wordOf_36 : decode cX7_wordOf 36 = .ok (.invokevirtual 85, 3) := by decide +kernel
theorem dX7_wordOf_39 : decode cX7_wordOf 39 = .ok (.ifCond .eq 5, 3) := by decide +kernel
theorem dX7_wordOf_42 : decode cX7_wordOf 42 = .ok (.iconst 4, 1) := by decide +kernel
theorem dX7_wordOf_43 : decode cX7_wordOf 43 = .ok (.ireturn, 1) := by decide +kernel
theorem dX7_wordOf_44 : decode cX7_wordOf 44 = .ok (.aload_n 0, 1) := by decide +kernel
theorem dX7_wordOf_45 : decode cX7_wordOf 45 = .ok (.ldc 95, 2) := by decide +kernel
theorem dX7_wordOf_47 : decode cX7_wordOf 47 = .ok (.invokevirtual 85, 3) := by decide +kernel
theorem dX7_wordOf_50 : decode cX7_wordOf 50 = .ok (.ifCond .eq 6, 3) := by decide +kernel
theorem dX7_wordOf_53 : decode cX7_wordOf 53 = .ok (.bipush 9, 2) := by decide +kernel
theorem dX7_wordOf_55 : decode cX7_wordOf 55 = .ok (.ireturn, 1) := by decide +kernel
theorem dX7_wordOf_56 : decode cX7_wordOf 56 = .ok (.aload_n 0, 1) := by decide +kernel
theorem dX7_wordOf_57 : decode cX7_wordOf 57 = .ok (.ldc 97, 2) := by decide +kernel
theorem dX7_wordOf_59 : decode cX7_wordOf 59 = .ok (.invokevirtual 85, 3) := by decide +kernel
theorem dX7_wordOf_62 : decode cX7_wordOf 62 = .ok (.ifCond .eq 8, 3) := by decide +kernel
theorem dX7_wordOf_65 : decode cX7_wordOf 65 = .ok (.bipush 10, 2) := by decide +kernel
theorem dX7_wordOf_67 : decode cX7_wordOf 67 = .ok (.goto 5, 3) := by decide +kernel
theorem dX7_wordOf_70 : decode cX7_wordOf 70 = .ok (.bipush 11, 2) := by decide +kernel
theorem dX7_wordOf_72 : decode cX7_wordOf 72 = .ok (.ireturn, 1) := by decide +kernel
theorem ct_X7_wordOf {g : Gw} (hG : GF g) {z : Bool} (E : Mm) (B : Nat → Int) (n : Nat) (t : TS) (hT : TP E B n t) : CT g yX7_wordOf cX7_wordOf 1 (some .int) 5 107 0 0 K2 z [mR 1] (ov E) K2 z (fun r D' => r = some (mI (woW B t)) ∧ D' = ov E) := by
  refine CT.mk hG (by decide +kernel) (Nat.le_of_ble_eq_true rfl) (fun κ X Rt _ ok => ?_)
  refine at_aload_n 1 X rfl rfl dX7_wordOf_0 rfl ?_
  refine at_ldcS 3 X 9 (by rfl) dX7_wordOf_1 rfl ?_
  refine at_callV 6 X _ 10 (ct_X10_isWord hG E B n t hT 9 [115, 104, 97, 100, 101, 115] rfl) clX10 rfl k_1 mo_X10_isWord w_1143 vo_X10_isWord.1 vo_X10_isWord.2 rfl rfl (crm Rt (by decide)) (Nat.le_of_ble_eq_true rfl) dX7_wordOf_3 rfl ?_
  rintro _ _ ⟨rfl, rfl⟩
  refine at_if_eq 9 11 X dX7_wordOf_6 rfl (by decide) (fun h0 => ?_) (fun h0 => ?_)
  · have h0 : ¬ wdB B t [115, 104, 97, 100, 101, 115] = true := ite_no.mp h0
    refine at_aload_n 12 X rfl rfl dX7_wordOf_11 rfl ?_
    refine at_ldcS 14 X 10 (by rfl) dX7_wordOf_12 rfl ?_
    refine at_callV 17 X _ 10 (ct_X10_isWord hG E B n t hT 10 [116, 97, 108, 108] rfl) clX10 rfl k_1 mo_X10_isWord w_1143 vo_X10_isWord.1 vo_X10_isWord.2 rfl rfl (crm Rt (by decide)) (Nat.le_of_ble_eq_true rfl) dX7_wordOf_14 rfl ?_
    rintro _ _ ⟨rfl, rfl⟩
    refine at_if_eq 20 22 X dX7_wordOf_17 rfl (by decide) (fun h1 => ?_) (fun h1 => ?_)
    · have h1 : ¬ wdB B t [116, 97, 108, 108] = true := ite_no.mp h1
      refine at_aload_n 23 X rfl rfl dX7_wordOf_22 rfl ?_
      refine at_ldcS 25 X 11 (by rfl) dX7_wordOf_23 rfl ?_
      refine at_callV 28 X _ 10 (ct_X10_isWord hG E B n t hT 11 [104, 111, 117, 114] rfl) clX10 rfl k_1 mo_X10_isWord w_1143 vo_X10_isWord.1 vo_X10_isWord.2 rfl rfl (crm Rt (by decide)) (Nat.le_of_ble_eq_true rfl) dX7_wordOf_25 rfl ?_
      rintro _ _ ⟨rfl, rfl⟩
      refine at_if_eq 31 33 X dX7_wordOf_28 rfl (by decide) (fun h2 => ?_) (fun h2 => ?_)
      · have h2 : ¬ wdB B t [104, 111, 117, 114] = true := ite_no.mp h2
        refine at_aload_n 34 X rfl rfl dX7_wordOf_33 rfl ?_
        refine at_ldcS 36 X 12 (by rfl) dX7_wordOf_34 rfl ?_
        refine at_callV 39 X _ 10 (ct_X10_isWord hG E B n t hT 12 [108, 97, 109, 112] rfl) clX10 rfl k_1 mo_X10_isWord w_1143 vo_X10_isWord.1 vo_X10_isWord.2 rfl rfl (crm Rt (by decide)) (Nat.le_of_ble_eq_true rfl) dX7_wordOf_36 rfl ?_
        rintro _ _ ⟨rfl, rfl⟩
        refine at_if_eq 42 44 X dX7_wordOf_39 rfl (by decide) (fun h3 => ?_) (fun h3 => ?_)
        · have h3 : ¬ wdB B t [108, 97, 109, 112] = true := ite_no.mp h3
          refine at_aload_n 45 X rfl rfl dX7_wordOf_44 rfl ?_
          refine at_ldcS 47 X 13 (by rfl) dX7_wordOf_45 rfl ?_
          refine at_callV 50 X _ 10 (ct_X10_isWord hG E B n t hT 13 [108, 101, 97, 115, 116] rfl) clX10 rfl k_1 mo_X10_isWord w_1143 vo_X10_isWord.1 vo_X10_isWord.2 rfl rfl (crm Rt (by decide)) (Nat.le_of_ble_eq_true rfl) dX7_wordOf_47 rfl ?_
          rintro _ _ ⟨rfl, rfl⟩
          refine at_if_eq 53 56 X dX7_wordOf_50 rfl (by decide) (fun h4 => ?_) (fun h4 => ?_)
          · have h4 : ¬ wdB B t [108, 101, 97, 115, 116] = true := ite_no.mp h4
            refine at_aload_n 57 X rfl rfl dX7_wordOf_56 rfl ?_
            refine at_ldcS 59 X 14 (by rfl) dX7_wordOf_57 rfl ?_
            refine at_callV 62 X _ 10 (ct_X10_isWord hG E B n t hT 14 [109, 111, 115, 116] rfl) clX10 rfl k_1 mo_X10_isWord w_1143 vo_X10_isWord.1 vo_X10_isWord.2 rfl rfl (crm Rt (by decide)) (Nat.le_of_ble_eq_true rfl) dX7_wordOf_59 rfl ?_
            rintro _ _ ⟨rfl, rfl⟩
            refine at_if_eq 65 70 X dX7_wordOf_62 rfl (by decide) (fun h5 => ?_) (fun h5 => ?_)
            · have h5 : ¬ wdB B t [109, 111, 115, 116] = true := ite_no.mp h5
              refine at_bipush 72 X (by decide) (by decide) dX7_wordOf_70 rfl ?_
              exact at_iret X Rt ⟨by unfold woW; rw [if_neg h0, if_neg h1, if_neg h2, if_neg h3, if_neg h4, if_neg h5], rfl⟩ (Nat.le_refl _) (Nat.le_refl _) dX7_wordOf_72
            · have h5 : wdB B t [109, 111, 115, 116] = true := ite_yes.mp h5
              refine at_bipush 67 X (by decide) (by decide) dX7_wordOf_65 rfl ?_
              refine at_goto 72 X dX7_wordOf_67 (by decide) ?_
              exact at_iret X Rt ⟨by unfold woW; rw [if_neg h0, if_neg h1, if_neg h2, if_neg h3, if_neg h4, if_pos h5], rfl⟩ (Nat.le_refl _) (Nat.le_refl _) dX7_wordOf_72
          · have h4 : wdB B t [108, 101, 97, 115, 116] = true := ite_yes.mp h4
            refine at_bipush 55 X (by decide) (by decide) dX7_wordOf_53 rfl ?_
            exact at_iret X Rt ⟨by unfold woW; rw [if_neg h0, if_neg h1, if_neg h2, if_neg h3, if_pos h4], rfl⟩ (Nat.le_refl _) (Nat.le_refl _) dX7_wordOf_55
        · have h3 : wdB B t [108, 97, 109, 112] = true := ite_yes.mp h3
          refine at_iconst 43 X (by decide) dX7_wordOf_42 rfl ?_
          exact at_iret X Rt ⟨by unfold woW; rw [if_neg h0, if_neg h1, if_neg h2, if_pos h3], rfl⟩ (Nat.le_refl _) (Nat.le_refl _) dX7_wordOf_43
      · have h2 : wdB B t [104, 111, 117, 114] = true := ite_yes.mp h2
        refine at_iconst 32 X (by decide) dX7_wordOf_31 rfl ?_
        exact at_iret X Rt ⟨by unfold woW; rw [if_neg h0, if_neg h1, if_pos h2], rfl⟩ (Nat.le_refl _) (Nat.le_refl _) dX7_wordOf_32
    · have h1 : wdB B t [116, 97, 108, 108] = true := ite_yes.mp h1
      refine at_iconst 21 X (by decide) dX7_wordOf_20 rfl ?_
      exact at_iret X Rt ⟨by unfold woW; rw [if_neg h0, if_pos h1], rfl⟩ (Nat.le_refl _) (Nat.le_refl _) dX7_wordOf_21
  · have h0 : wdB B t [115, 104, 97, 100, 101, 115] = true := ite_yes.mp h0
    refine at_iconst 10 X (by decide) dX7_wordOf_9 rfl ?_
    exact at_iret X Rt ⟨by unfold woW; rw [if_pos h0], rfl⟩ (Nat.le_refl _) (Nat.le_refl _) dX7_wordOf_10
