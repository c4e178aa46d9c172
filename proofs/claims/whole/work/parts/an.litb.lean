/-! the lamps of both sides light alike -/
theorem LM_base {base : Nat → Bool} {gn : Nat → Nat → Bool} {c : Nat} : ∀ {l : List Nat} {b : Bool}, b = true → l.foldl (fun b x => b || gn x c) b = true
  | [], _, h => h
  | x :: t, b, h => LM_base (base := base) (l := t) (by rw [h]; rfl)
theorem LM_congr {gn gn' : Nat → Nat → Bool} {c : Nat} : ∀ {l : List Nat} {b : Bool}, (∀ x, x ∈ l → gn x c = gn' x c) → l.foldl (fun b x => b || gn x c) b = l.foldl (fun b x => b || gn' x c) b
  | [], _, _ => rfl
  | x :: t, b, h => by
    show t.foldl (fun b x => b || gn x c) (b || gn x c) = t.foldl (fun b x => b || gn' x c) (b || gn' x c)
    rw [h x List.mem_cons_self]
    exact LM_congr (fun y hy => h y (List.mem_cons_of_mem _ hy))
theorem gn_ds {G : GP} {B : BM} {T : LN} {r x c : Nat} (hc : c < gW G) (he : EC B T c) (hl : gLm G c = false) (hch : chB G c = true) : gnP G B T r x c = dsB r x c := by
  have hM : (chM G B T).testBit c = true := by
    unfold chM
    rw [mk_in hc, (ec2_EC B T c).mpr he, hl, hch]
    rfl
  unfold gnP gdP dsB
  rw [Nat.testBit_and, hM, Bool.and_true]
  apply Bool.eq_iff_iff.mpr
  rw [spr_tb, Bool.and_eq_true, decide_eq_true_iff, decide_eq_true_iff]
  constructor
  · rintro ⟨i, h1, h2, h3⟩
    rw [Nat.testBit_two_pow, decide_eq_true_iff] at h1
    subst h1
    exact ⟨h3, h2⟩
  · rintro ⟨h1, h2⟩
    exact ⟨x, by rw [Nat.testBit_two_pow, decide_eq_true_iff], h2, h1⟩
theorem lamps_on {G : GP} {B : BM} {T : LN} {r h c : Nat} {l : List Nat} (hc : c < gW G) (hh : h < 24) (he : EC B T c) : bOn (setL G (LM (gLm G) (gnP G B T r) l)) h c = bOn (setL G (LM (gLm G) (dsB r) l)) h c := by
  show bIf G (LM (gLm G) (gnP G B T r) l c) h c = bIf G (LM (gLm G) (dsB r) l c) h c
  cases hl : gLm G c
  · by_cases hch : chB G c = true
    · have e : LM (gLm G) (gnP G B T r) l c = LM (gLm G) (dsB r) l c := LM_congr (fun x _ => gn_ds hc he hl hch)
      rw [e]
    · have key : bIf G true h c = bIf G false h c := Decidable.byContradiction (fun q => hch ((chB_iff G c).mpr ⟨h, hh, q⟩))
      cases LM (gLm G) (gnP G B T r) l c <;> cases LM (gLm G) (dsB r) l c <;> first | rfl | exact key | exact key.symm
  · have e1 : LM (gLm G) (gnP G B T r) l c = true := LM_base (base := gLm G) hl
    have e2 : LM (gLm G) (dsB r) l c = true := LM_base (base := gLm G) hl
    rw [e1, e2]
theorem lamps_alike {G : GP} {B : BM} {T : LN} {r w : Nat} {l : List Nat} (hW : WB (gW G) B) (hT : WT (gW G) B T) : GDp (setL G (LM (gLm G) (gnP G B T r) l)) B T w ↔ GDp (setL G (LM (gLm G) (dsB r) l)) B T w := by
  have e := (dyP_alike (G := setL G (LM (gLm G) (gnP G B T r) l)) (G' := setL G (LM (gLm G) (dsB r) l)) (B := B) (T := T) (fun h c hh he => lamps_on (WT.ec hW hT he) hh he) (n := 24) (Nat.le_refl 24)).1
  unfold GDp
  rw [e]
theorem LITr_congr {W : Nat} {base : Nat → Bool} {gn gn' : Nat → Nat → Bool} {Good : (Nat → Bool) → Prop} {v r : Int} (h : ∀ t, Good (LM base gn t) ↔ Good (LM base gn' t)) (q : LITr W base gn Good v r) : LITr W base gn' Good v r := by
  rcases q with ⟨a, b⟩ | ⟨t, t1, t2, t3, t4, t5, t6, t7⟩
  · exact Or.inl ⟨a, fun t c e k => b t c e ((h t).mpr k)⟩
  · exact Or.inr ⟨t, t1, t2, (h t).mp t3, fun t' c e k => t4 t' c e ((h t').mpr k), fun t' c e k => t5 t' c e ((h t').mpr k), t6, t7⟩
theorem lit_both {P : SP} {L : LW} {T : LN} {d w r : Nat} {v r0 v' r1 x2 : Int} (hP : WS P) (hT : WT (sW P) (sB P) T) (h : LITr (sW P) (sLc P) (gnP (gNow P L d) (sB P) T r) (GDl P L T d w) v r0) (h' : LITr (sW P) (sLc P) (dsB r) (GDl P L T d w) v' r1) : (if v = -1 ∨ x2 = 0 then v else r0) = (if v' = -1 ∨ x2 = 0 then v' else r1) := by
  have h1 := LITr_congr (gn' := dsB r) (fun t => lamps_alike (G := gNow P L d) (B := sB P) (T := T) (r := r) (w := w) (l := t) hP.B hT) h
  obtain ⟨e1, e2⟩ := LITr_uniq h1 h'
  by_cases c : v = -1
  · rw [if_pos (Or.inl c), if_pos (Or.inl (e1.symm.trans c)), e1]
  · have := e2 c
    rw [← e1, this]
