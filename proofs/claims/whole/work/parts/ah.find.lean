/-! lamps: the search of the class -/
def setL (G : GP) (lm : Nat → Bool) : GP := (gW G, gN G, gX G, gH G, gT' G, gR G, gC G, lm, gLw G)
theorem setL_WG {G : GP} (h : WG G) (lm : Nat → Bool) : WG (setL G lm) := h
theorem CG.setL {E : Mm} {a : Nat} {G : GP} {l0 : Nat → Bool} (h : CG E a (setL G l0)) (lm : Nat → Bool) : CG (wr E a 13 (mk lm 50 : Nat)) a (setL G lm) := by
  obtain ⟨⟨q1, q2, q3, q4, q5, q6, q7⟩, h2, h3, h4⟩ := h
  refine ⟨⟨?_, ?_, ?_, ?_, wr_s _ _ _ _, ?_, ?_⟩, ⟨?_, ?_⟩, ?_, ?_⟩
  · rw [wr_o (by omega)]; exact q1
  · rw [wr_o (by omega)]; exact q2
  · rw [wr_o (by omega)]; exact q3
  · rw [wr_o (by omega)]; exact q4
  · rw [wr_row (by omega), wr_row (by omega)]; exact q6
  · rw [wr_row (by omega), wr_row (by omega)]; exact q7
  · rw [wr_o (by omega)]; exact h2.1
  · rw [wr_row (by omega)]; exact h2.2
  · unfold CGs at h3 ⊢; rw [wr_row (by omega)]; exact h3
  · unfold CK at h4 ⊢; rw [wr_row (by omega)]; exact h4
/-- none of the watched beams has fallen -/
theorem fell_iff {G : GP} {B : BM} {T : LN} {w n : Nat} (hN : bN B ≤ 8) (hw : w < 2 ^ bN B) (hn : n ≤ 24) (h : n = 24 ∨ ¬ (mk (fun k => decide (¬ dF (dyP G B T n) k = -1)) 8 &&& w) = 0) : (mk (fun k => decide (¬ dF (dyP G B T n) k = -1)) 8 &&& w) = 0 ↔ GDp G B T w := by
  constructor
  · intro e b hb hwb
    have hn24 : n = 24 := h.resolve_right (fun q => q e)
    subst hn24
    apply Decidable.byContradiction
    intro c
    have := congrArg (fun x => x.testBit b) e
    simp only [Nat.testBit_and, Nat.zero_testBit, hwb, Bool.and_true] at this
    rw [mk_in (show b < 8 by omega), decide_eq_true c] at this
    cases this
  · intro g
    refine Nat.eq_of_testBit_eq fun b => ?_
    rw [Nat.testBit_and, Nat.zero_testBit]
    by_cases hb : b < bN B
    · by_cases hwb : w.testBit b = true
      · have g1 := g b hb hwb
        have : dF (dyP G B T n) b = -1 := Decidable.byContradiction (fun c => by
          have q := dyP_fell c (24 - n)
          rw [show n + (24 - n) = 24 by omega] at q
          exact q g1)
        rw [mk_in (show b < 8 by omega), decide_eq_false (fun q => q this), Bool.false_and]
      · rw [Bool.eq_false_iff.mpr hwb, Bool.and_false]
    · rw [Nat.testBit_lt_two_pow (Nat.lt_of_lt_of_le hw (Nat.pow_le_pow_right (by decide) (show bN B ≤ b by omega))), Bool.and_false]
/-- what is demanded holds wherever none of the watched beams falls -/
theorem good_allows {G : GP} {B : BM} {T : LN} {w nl nd : Nat} {lm : Nat → Bool} (hW40 : gW G ≤ 40) (hW : WB (gW G) B) (hT : WT (gW G) B T) (hnl : NB G B T w false 24 nl) (hnd : NB G B T w true 24 nd) (hg : GDp (setL G lm) B T w) : mk lm 50 &&& nl = nl ∧ mk lm 50 &&& nd = 0 := by
  have key : ∀ t c, t < 24 → 0 < wtW B w (plW B T (t + 1)) c (bN B) → wtW B w (plW B T (t + 1)) c (bN B) ≤ bIf G (lm c) t c * 232792560 := fun t c ht h0 => good_bears (G := setL G lm) hW hT hg ht h0
  refine ⟨Nat.eq_of_testBit_eq fun c => ?_, Nat.eq_of_testBit_eq fun c => ?_⟩
  · rw [Nat.testBit_and]
    by_cases q : nl.testBit c = true
    · obtain ⟨hc, t, h1, h2, h3⟩ := hnl.2 c q
      have k := key t c h1 h2
      rw [mk_in (show c < 50 by omega), q, Bool.and_true]
      cases e : lm c
      · rw [e] at k; omega
      · rfl
    · rw [Bool.eq_false_iff.mpr q, Bool.and_false]
  · rw [Nat.testBit_and, Nat.zero_testBit]
    by_cases q : nd.testBit c = true
    · obtain ⟨hc, t, h1, h2, h3⟩ := hnd.2 c q
      have k := key t c h1 h2
      rw [mk_in (show c < 50 by omega), q, Bool.and_true]
      cases e : lm c
      · rfl
      · rw [e] at k; omega
    · rw [Bool.eq_false_iff.mpr q, Bool.and_false]
/-- what a lamp gains, cell by cell -/
def gnP (G : GP) (B : BM) (T : LN) (r x c : Nat) : Bool := (gdP G B T r x).testBit c
theorem LM_or {base : Nat → Bool} {G : GP} {B : BM} {T : LN} {r : Nat} (hW : gW G ≤ 40) (l : List Nat) (x : Nat) : mk (LM base (gnP G B T r) l) 50 ||| gdP G B T r x = mk (LM base (gnP G B T r) (l ++ [x])) 50 := by
  refine mk_eq (Nat.or_lt_two_pow (mk_lt _ _) (Nat.lt_trans (gd_lt hW r x) (by decide))) (fun j hj => ?_)
  rw [Nat.testBit_or, mk_in hj, LM_snoc]
  rfl
def FGd (P : SP) (L : LW) (T : LN) (d w r : Nat) (l : List Nat) : Prop := GDp (setL (gNow P L d) (LM (sLc P) (gnP (gNow P L d) (sB P) T r) l)) (sB P) T w
def FLI (E : Mm) (s : Nat) (P : SP) (L : LW) (T K : LN) (d w r m : Nat) (cl : Nat → Nat) (nl nd : Nat) : Prop := CXI E s P L T K d ∧ (∃ lm, CG E 39 (setL (gNow P L d) lm)) ∧ GI E (gdP (gNow P L d) (sB P) T r) m cl (sW P) ∧ E 62 6 = (nl : Int) ∧ E 62 7 = (nd : Int) ∧ NB (gNow P L d) (sB P) T w false 24 nl ∧ NB (gNow P L d) (sB P) T w true 24 nd
def FLf (E E1 : Mm) : Prop := ∀ q, ¬ (39 ≤ q ∧ q ≤ 47) → ¬ (54 ≤ q ∧ q ≤ 59) → q ≠ 7 → q ≠ 65 → E1 q = E q
theorem FLI.fr {E E1 : Mm} {s d w r m nl nd : Nat} {P : SP} {L : LW} {T K : LN} {cl : Nat → Nat} (h : FLI E s P L T K d w r m cl nl nd) (hf : FLf E E1) (hg : ∃ lm, CG E1 39 (setL (gNow P L d) lm)) : FLI E1 s P L T K d w r m cl nl nd ∧ CXF E E1 := by
  have ht := h.1.tried (E1 := E1) (fun q h1 h2 h3 => hf q h1 (by omega) h3 (by omega))
  have e62 := hf 62 (by omega) (by omega) (by omega) (by omega)
  exact ⟨⟨ht.1, hg, h.2.2.1.fr (by rw [e62]) (hf 63 (by omega) (by omega) (by omega) (by omega)) (hf 64 (by omega) (by omega) (by omega) (by omega)), by rw [e62]; exact h.2.2.2.1, by rw [e62]; exact h.2.2.2.2.1, h.2.2.2.2.2.1, h.2.2.2.2.2.2⟩, ht.2.2⟩
def PKr (E : Mm) (cl : Nat → Nat) (p : List Nat) : Prop := ∀ i, i < p.length → E 65 i = (cl (p.getD i 0) : Int)
/-- what the search answers -/
def FLQ (P : SP) (L : LW) (T : LN) (d w r m : Nat) (cl : Nat → Nat) (p : List Nat) (f n : Nat) (E1 : Mm) (v : Int) : Prop :=
  (v = 1 ∧ ∃ t, incL m f t ∧ t.length = n ∧ FGd P L T d w r ((p ++ t).map cl) ∧ (∀ t', incL m f t' → t'.length = n → FGd P L T d w r ((p ++ t').map cl) → dgt ((p ++ t).map cl) ≤ dgt ((p ++ t').map cl)) ∧ PKr E1 cl (p ++ t)) ∨ (v = 0 ∧ ∀ t, incL m f t → t.length = n → ¬ FGd P L T d w r ((p ++ t).map cl))
def FLp (E E1 : Mm) (s : Nat) (P : SP) (L : LW) (T K : LN) (d w r m : Nat) (cl : Nat → Nat) (nl nd : Nat) (p : List Nat) (f n : Nat) (v : Int) : Prop :=
  FLI E1 s P L T K d w r m cl nl nd ∧ CXF E E1 ∧ (∀ i, i < p.length → E1 65 i = E 65 i) ∧ FLQ P L T d w r m cl p f n E1 v
theorem app_nil_map {cl : Nat → Nat} (p : List Nat) : (p ++ []).map cl = p.map cl := by rw [List.append_nil]
theorem FLQ.zero {P : SP} {L : LW} {T : LN} {d w r m : Nat} {cl : Nat → Nat} {p : List Nat} {f : Nat} {E1 : Mm} (h : ¬ FGd P L T d w r (p.map cl)) : FLQ P L T d w r m cl p f 0 E1 0 :=
  Or.inr ⟨rfl, fun t _ hl => by
    rw [List.length_eq_zero_iff.mp hl, app_nil_map]
    exact h⟩
theorem FLQ.one {P : SP} {L : LW} {T : LN} {d w r m : Nat} {cl : Nat → Nat} {p : List Nat} {f : Nat} {E1 : Mm} (h : FGd P L T d w r (p.map cl)) (hp : PKr E1 cl p) : FLQ P L T d w r m cl p f 0 E1 1 :=
  Or.inl ⟨rfl, [], trivial, rfl, by rw [app_nil_map]; exact h, fun t' _ hl _ => by rw [List.length_eq_zero_iff.mp hl]; exact Nat.le_refl _, by rw [List.append_nil]; exact hp⟩
/-- none before i begins a good row -/
def FNo (P : SP) (L : LW) (T : LN) (d w r m : Nat) (cl : Nat → Nat) (p : List Nat) (f n i : Nat) : Prop := ∀ j t, f ≤ j → j < i → incL m (j + 1) t → t.length = n → ¬ FGd P L T d w r ((p ++ j :: t).map cl)
theorem FNo.step {P : SP} {L : LW} {T : LN} {d w r m : Nat} {cl : Nat → Nat} {p : List Nat} {f n i : Nat} {E1 : Mm} {v : Int} (h : FNo P L T d w r m cl p f n i) (hq : FLQ P L T d w r m cl (p ++ [i]) (i + 1) n E1 v) (hv : ¬ v = 1) : FNo P L T d w r m cl p f n (i + 1) := by
  intro j t h1 h2 h3 h4
  by_cases e : j = i
  · subst e
    rcases hq with q | q
    · exact absurd q.1 hv
    · rw [snoc_app]; exact q.2 t h3 h4
  · exact h j t h1 (by omega) h3 h4
theorem FNo.all {P : SP} {L : LW} {T : LN} {d w r m : Nat} {cl : Nat → Nat} {p : List Nat} {f n : Nat} {E1 : Mm} (h : FNo P L T d w r m cl p f n m) : FLQ P L T d w r m cl p f (n + 1) E1 0 :=
  Or.inr ⟨rfl, fun t ht hl => by
    match t, ht, hl with
    | [], _, hl => cases hl
    | j :: t, ht, hl => exact h j t ht.1.1 ht.1.2 ht.2 (by have : t.length + 1 = n + 1 := hl; omega)⟩
theorem FNo.found {P : SP} {L : LW} {T : LN} {d w r m : Nat} {cl : Nat → Nat} {p : List Nat} {f n i : Nat} {E1 : Mm} {v : Int} (h : FNo P L T d w r m cl p f n i) (hq : FLQ P L T d w r m cl (p ++ [i]) (i + 1) n E1 v) (hv : ¬ v = 0) (hfi : f ≤ i) (him : i < m) (hcl : ∀ i j, i < j → j < m → cl i < cl j) (h64 : ∀ i, i < m → cl i < 64) : FLQ P L T d w r m cl p f (n + 1) E1 1 := by
  rcases hq with ⟨-, t, t1, t2, t3, t4, t5⟩ | q
  · refine Or.inl ⟨rfl, i :: t, ⟨⟨hfi, him⟩, t1⟩, by show t.length + 1 = n + 1; omega, by rw [snoc_app]; exact t3, fun t' h1 h2 h3 => ?_, by rw [snoc_app]; exact t5⟩
    match t', h1, h2, h3 with
    | [], _, hl, _ => cases hl
    | j :: u, h1, h2, h3 =>
      have h2' : u.length = n := by have : u.length + 1 = n + 1 := h2; omega
      by_cases e : j = i
      · subst e
        rw [snoc_app p j t, snoc_app p j u]
        rw [snoc_app p j u] at h3
        exact t4 u h1.2 h2' h3
      · by_cases c : j < i
        · exact absurd h3 (h j u h1.1.1 c h1.2 h2')
        · have hlt := hcl i j (by omega) h1.1.2
          have hm : ∀ y, y ∈ t.map cl → y < 64 := by
            intro y hy
            obtain ⟨k, hk, rfl⟩ := List.mem_map.mp hy
            exact h64 k (incL_mem t1 k hk)
          rw [List.map_append, List.map_append, List.map_cons, List.map_cons]
          exact Nat.le_of_lt (dgt_first hlt (by rw [List.length_map, List.length_map]; omega) hm)
  · exact absurd q.1 hv
theorem PKr.snoc {E E1 : Mm} {cl : Nat → Nat} {p : List Nat} {i : Nat} (h : PKr E cl p) (h1 : E1 65 p.length = (cl i : Int)) (hf : ∀ k, k < p.length → E1 65 k = E 65 k) : PKr E1 cl (p ++ [i]) := by
  intro k hk
  rw [List.length_append] at hk
  have hk' : k < p.length + 1 := hk
  by_cases e : k = p.length
  · subst e
    rw [h1, List.getD_eq_getElem?_getD, List.getElem?_append_right (Nat.le_refl _), Nat.sub_self]
    rfl
  · rw [hf k (by omega), h k (by omega), List.getD_eq_getElem?_getD, List.getD_eq_getElem?_getD, List.getElem?_append_left (by omega)]
theorem dX11_findLamps_0 : decode cX11_findLamps 0 = .ok (.iload_n 3, 1) := by decide +kernel
theorem dX11_findLamps_1 : decode cX11_findLamps 1 = .ok (.iload_n 2, 1) := by decide +kernel
theorem dX11_findLamps_2 : decode cX11_findLamps 2 = .ok (.if_icmp .ge 8, 3) := by decide +kernel
theorem dX11_findLamps_5 : decode cX11_findLamps 5 = .ok (.iload_n 3, 1) := by decide +kernel
theorem dX11_findLamps_6 : decode cX11_findLamps 6 = .ok (.iconst 3, 1) := by decide +kernel
theorem dX11_findLamps_7 : decode cX11_findLamps 7 = .ok (.if_icmp .lt 67, 3) := by decide +kernel
theorem dX11_findLamps_10 : decode cX11_findLamps 10 = .ok (.aload_n 0, 1) := by decide +kernel
theorem dX11_findLamps_11 : decode cX11_findLamps 11 = .ok (.getfield 86, 3) := by decide +kernel
theorem dX11_findLamps_14 : decode cX11_findLamps 14 = .ok (.lload 5, 2) := by decide +kernel
theorem dX11_findLamps_16 : decode cX11_findLamps 16 = .ok (.invokevirtual 330, 3) := by decide +kernel
theorem dX11_findLamps_19 : decode cX11_findLamps 19 = .ok (.ifCond .ne 5, 3) := by decide +kernel
theorem dX11_findLamps_22 : decode cX11_findLamps 22 = .ok (.iconst 0, 1) := by decide +kernel
theorem dX11_findLamps_23 : decode cX11_findLamps 23 = .ok (.ireturn, 1) := by decide +kernel
theorem dX11_findLamps_24 : decode cX11_findLamps 24 = .ok (.aload_n 0, 1) := by decide +kernel
theorem dX11_findLamps_25 : decode cX11_findLamps 25 = .ok (.getfield 63, 3) := by decide +kernel
theorem dX11_findLamps_28 : decode cX11_findLamps 28 = .ok (.lload 5, 2) := by decide +kernel
theorem dX11_findLamps_30 : decode cX11_findLamps 30 = .ok (.putfield 334, 3) := by decide +kernel
theorem dX11_findLamps_33 : decode cX11_findLamps 33 = .ok (.aload_n 0, 1) := by decide +kernel
theorem dX11_findLamps_34 : decode cX11_findLamps 34 = .ok (.getfield 73, 3) := by decide +kernel
theorem dX11_findLamps_37 : decode cX11_findLamps 37 = .ok (.aload_n 0, 1) := by decide +kernel
theorem dX11_findLamps_38 : decode cX11_findLamps 38 = .ok (.getfield 63, 3) := by decide +kernel
theorem dX11_findLamps_41 : decode cX11_findLamps 41 = .ok (.aload_n 0, 1) := by decide +kernel
theorem dX11_findLamps_42 : decode cX11_findLamps 42 = .ok (.getfield 93, 3) := by decide +kernel
theorem dX11_findLamps_45 : decode cX11_findLamps 45 = .ok (.getfield 135, 3) := by decide +kernel
theorem dX11_findLamps_48 : decode cX11_findLamps 48 = .ok (.aload_n 0, 1) := by decide +kernel
theorem dX11_findLamps_49 : decode cX11_findLamps 49 = .ok (.getfield 33, 3) := by decide +kernel
theorem dX11_findLamps_52 : decode cX11_findLamps 52 = .ok (.iload_n 1, 1) := by decide +kernel
theorem dX11_findLamps_53 : decode cX11_findLamps 53 = .ok (.invokevirtual 335, 3) := by decide +kernel
theorem dX11_findLamps_56 : decode cX11_findLamps 56 = .ok (.aload_n 0, 1) := by decide +kernel
theorem dX11_findLamps_57 : decode cX11_findLamps 57 = .ok (.getfield 73, 3) := by decide +kernel
theorem dX11_findLamps_60 : decode cX11_findLamps 60 = .ok (.getfield 284, 3) := by decide +kernel
theorem dX11_findLamps_63 : decode cX11_findLamps 63 = .ok (.iload_n 1, 1) := by decide +kernel
theorem dX11_findLamps_64 : decode cX11_findLamps 64 = .ok (.iand, 1) := by decide +kernel
theorem dX11_findLamps_65 : decode cX11_findLamps 65 = .ok (.ifCond .ne 7, 3) := by decide +kernel
theorem dX11_findLamps_68 : decode cX11_findLamps 68 = .ok (.iconst 1, 1) := by decide +kernel
theorem dX11_findLamps_69 : decode cX11_findLamps 69 = .ok (.goto 4, 3) := by decide +kernel
theorem dX11_findLamps_72 : decode cX11_findLamps 72 = .ok (.iconst 0, 1) := by decide +kernel
theorem dX11_findLamps_73 : decode cX11_findLamps 73 = .ok (.ireturn, 1) := by decide +kernel
theorem dX11_findLamps_74 : decode cX11_findLamps 74 = .ok (.iload 4, 2) := by decide +kernel
theorem dX11_findLamps_76 : decode cX11_findLamps 76 = .ok (.istore 7, 2) := by decide +kernel
theorem dX11_findLamps_78 : decode cX11_findLamps 78 = .ok (.iload 7, 2) := by decide +kernel
theorem dX11_findLamps_80 : decode cX11_findLamps 80 = .ok (.aload_n 0, 1) := by decide +kernel
theorem dX11_findLamps_81 : decode cX11_findLamps 81 = .ok (.getfield 86, 3) := by decide +kernel
theorem dX11_findLamps_84 : decode cX11_findLamps 84 = .ok (.getfield 338, 3) := by decide +kernel
theorem dX11_findLamps_87 : decode cX11_findLamps 87 = .ok (.if_icmp .ge 59, 3) := by decide +kernel
theorem dX11_findLamps_90 : decode cX11_findLamps 90 = .ok (.aload_n 0, 1) := by decide +kernel
theorem dX11_findLamps_91 : decode cX11_findLamps 91 = .ok (.getfield 86, 3) := by decide +kernel
theorem dX11_findLamps_94 : decode cX11_findLamps 94 = .ok (.getfield 339, 3) := by decide +kernel
theorem dX11_findLamps_97 : decode cX11_findLamps 97 = .ok (.iload_n 3, 1) := by decide +kernel
theorem dX11_findLamps_98 : decode cX11_findLamps 98 = .ok (.aload_n 0, 1) := by decide +kernel
theorem dX11_findLamps_99 : decode cX11_findLamps 99 = .ok (.getfield 86, 3) := by decide +kernel
theorem dX11_findLamps_102 : decode cX11_findLamps 102 = .ok (.getfield 342, 3) := by decide +kernel
theorem dX11_findLamps_105 : decode cX11_findLamps 105 = .ok (.iload 7, 2) := by decide +kernel
theorem dX11_findLamps_107 : decode cX11_findLamps 107 = .ok (.iaload, 1) := by decide +kernel
theorem dX11_findLamps_108 : decode cX11_findLamps 108 = .ok (.iastore, 1) := by decide +kernel
theorem dX11_findLamps_109 : decode cX11_findLamps 109 = .ok (.aload_n 0, 1) := by decide +kernel
theorem dX11_findLamps_110 : decode cX11_findLamps 110 = .ok (.iload_n 1, 1) := by decide +kernel
theorem dX11_findLamps_111 : decode cX11_findLamps 111 = .ok (.iload_n 2, 1) := by decide +kernel
theorem dX11_findLamps_112 : decode cX11_findLamps 112 = .ok (.iload_n 3, 1) := by decide +kernel
theorem dX11_findLamps_113 : decode cX11_findLamps 113 = .ok (.iconst 1, 1) := by decide +kernel
theorem dX11_findLamps_114 : decode cX11_findLamps 114 = .ok (.iadd, 1) := by decide +kernel
theorem dX11_findLamps_115 : decode cX11_findLamps 115 = .ok (.iload 7, 2) := by decide +kernel
theorem dX11_findLamps_117 : decode cX11_findLamps 117 = .ok (.iconst 1, 1) := by decide +kernel
theorem dX11_findLamps_118 : decode cX11_findLamps 118 = .ok (.iadd, 1) := by decide +kernel
theorem dX11_findLamps_119 : decode cX11_findLamps 119 = .ok (.lload 5, 2) := by decide +kernel
theorem dX11_findLamps_121 : decode cX11_findLamps 121 = .ok (.aload_n 0, 1) := by decide +kernel
theorem dX11_findLamps_122 : decode cX11_findLamps 122 = .ok (.getfield 86, 3) := by decide +kernel
theorem dX11_findLamps_125 : decode cX11_findLamps 125 = .ok (.getfield 345, 3) := by decide +kernel
theorem dX11_findLamps_128 : decode cX11_findLamps 128 = .ok (.iload 7, 2) := by decide +kernel
theorem dX11_findLamps_130 : decode cX11_findLamps 130 = .ok (.laload, 1) := by decide +kernel
theorem dX11_findLamps_131 : decode cX11_findLamps 131 = .ok (.lor, 1) := by decide +kernel
theorem dX11_findLamps_132 : decode cX11_findLamps 132 = .ok (.invokevirtual 323, 3) := by decide +kernel
theorem dX11_findLamps_135 : decode cX11_findLamps 135 = .ok (.ifCond .eq 5, 3) := by decide +kernel
theorem dX11_findLamps_138 : decode cX11_findLamps 138 = .ok (.iconst 1, 1) := by decide +kernel
theorem dX11_findLamps_139 : decode cX11_findLamps 139 = .ok (.ireturn, 1) := by decide +kernel
theorem dX11_findLamps_140 : decode cX11_findLamps 140 = .ok (.iinc 7 1, 3) := by decide +kernel
theorem dX11_findLamps_143 : decode cX11_findLamps 143 = .ok (.goto (-65), 3) := by decide +kernel
theorem dX11_findLamps_146 : decode cX11_findLamps 146 = .ok (.iconst 0, 1) := by decide +kernel
theorem dX11_findLamps_147 : decode cX11_findLamps 147 = .ok (.ireturn, 1) := by decide +kernel
theorem ct_find0 {g : Gw} (hG : GF g) {z : Bool} (s : Nat) (P : SP) (L : LW) (T K : LN) (d w r m : Nat) (cl : Nat → Nat) (nl nd : Nat) (hw8 : w < 2 ^ bN (sB P)) (E : Mm) (p : List Nat) (put first lit more : Nat) (hL_E : FLI E s P L T K d w r m cl nl nd) (hpk : PKr E cl p) (hput : put = p.length) (hlit : lit = mk (LM (sLc P) (gnP (gNow P L d) (sB P) T r) (p.map cl)) 50) (hmore : put = more) : CT g yX11_findLamps cX11_findLamps 8 (some .boolean) 5 126 0 0 K2 z [mR 0, mI ((w : Nat) : Int), mI ((more : Nat) : Int), mI ((put : Nat) : Int), mI ((first : Nat) : Int), mL ((lit : Nat) : Int)] (ov E) K2 z (fun r' D' => ∃ v E1, r' = some (mI v) ∧ D' = ov E1 ∧ FLp E E1 s P L T K d w r m cl nl nd p first 0 v) := by
  refine CT.mk hG (by decide +kernel) (Nat.le_of_ble_eq_true rfl) (fun κ X Rt _ ok => ?_)
  have hs := hL_E.1.sa
  have hP := hL_E.1.WS
  have hW40 := hP.W
  have hN8 := hP.B.N
  have hwG := gNow_WG hL_E.1
  have hw256 : w < 256 := by
    have h2 := Nat.pow_le_pow_right (show 0 < 2 by decide) hN8
    rw [show (2 : Nat) ^ 8 = 256 by decide] at h2
    omega
  have hlit50 := mk_lt (LM (sLc P) (gnP (gNow P L d) (sB P) T r) (p.map cl)) 50
  rw [← hlit, show (2 : Nat) ^ 50 = 1125899906842624 by decide] at hlit50
  have hmW := hL_E.2.2.1.2.1
  refine at_iload_n 1 X rfl rfl dX11_findLamps_0 rfl ?_
  refine at_iload_n 2 X rfl rfl dX11_findLamps_1 rfl ?_
  refine at_icmp_ge 5 10 X dX11_findLamps_2 rfl (by decide) (fun h2 => ?_) (fun h2 => ?_)
  · refine at_aload_n 11 X rfl rfl dX11_findLamps_10 rfl ?_
    refine m_getR 14 X f_X11_86 k_0 r_0_14 dX11_findLamps_11 rfl ?_
    refine at_lload 16 X rfl dX11_findLamps_14 rfl ?_
    refine at_callV 19 X _ 6 (ct_X6_allows hG E lit nl nd (by omega) hL_E.2.2.2.1 hL_E.2.2.2.2.1 hL_E.2.2.2.2.2.1.1 hL_E.2.2.2.2.2.2.1) clX6 rfl k_62 mo_X6_allows w_1475 vo_X6_allows.1 vo_X6_allows.2 rfl rfl (crm Rt (by decide)) (Nat.le_of_ble_eq_true rfl) dX11_findLamps_16 rfl ?_
    rintro _ _ ⟨rfl, rfl⟩
    refine at_if_ne 22 24 X dX11_findLamps_19 rfl (by decide) (fun h19 => ?_) (fun h19 => ?_)
    · have h19 : (lit &&& nl = nl ∧ lit &&& nd = 0) := ite_yes.mp h19
      have hgL : CG (wr E 39 13 ((lit : Nat) : Int)) 39 (setL (gNow P L d) (LM (sLc P) (gnP (gNow P L d) (sB P) T r) (p.map cl))) := by
        obtain ⟨l0, hg0⟩ := hL_E.2.1
        rw [hlit]
        exact hg0.setL _
      refine at_aload_n 25 X rfl rfl dX11_findLamps_24 rfl ?_
      refine m_getR 28 X f_X11_63 k_0 r_0_10 dX11_findLamps_25 rfl ?_
      refine at_lload 30 X rfl dX11_findLamps_28 rfl ?_
      refine m_putL 33 X f_X11_334 fw_4_13 k_39 rn_39_13 dX11_findLamps_30 rfl ?_
      refine at_aload_n 34 X rfl rfl dX11_findLamps_33 rfl ?_
      refine m_getR 37 X f_X11_73 k_0 r_0_12 dX11_findLamps_34 rfl ?_
      refine at_aload_n 38 X rfl rfl dX11_findLamps_37 rfl ?_
      refine m_getR 41 X f_X11_63 k_0 r_0_10 dX11_findLamps_38 rfl ?_
      refine at_aload_n 42 X rfl rfl dX11_findLamps_41 rfl ?_
      refine m_getM 45 X (s) f_X11_93 k_0 rn_0_15 ((wr_o (by omega)).trans hL_E.1.now) dX11_findLamps_42 rfl ?_
      refine m_getR 48 X f_X11_135 (kX9 hs) (rX9_7 hs) dX11_findLamps_45 rfl ?_
      refine at_aload_n 49 X rfl rfl dX11_findLamps_48 rfl ?_
      refine m_getR 52 X f_X11_33 k_0 r_0_4 dX11_findLamps_49 rfl ?_
      refine at_iload_n 53 X rfl rfl dX11_findLamps_52 rfl ?_
      refine at_callV 56 X _ 3 (ct_X3_go hG (wr E 39 13 ((lit : Nat) : Int)) 54 (Or.inr rfl) 39 (Or.inr rfl) (setL (gNow P L d) (LM (sLc P) (gnP (gNow P L d) (sB P) T r) (p.map cl))) (setL_WG hwG _) hgL (hL_E.1.Lw.fr (fun q _ _ => wr_row (by omega))) (sB P) (s + 8) (iB_8 hs) (hL_E.1.B.fr (fun q _ _ => wr_row (by omega))) hP.B T (hL_E.1.Tn.fr (fun q _ _ => wr_row (by omega))) hL_E.1.WT w hw256) clX3 rfl k_54 mo_X3_go w_717 vo_X3_go.1 vo_X3_go.2 rfl rfl (crm Rt (by decide)) (Nat.le_of_ble_eq_true rfl) dX11_findLamps_53 rfl ?_
      rintro _ _ ⟨rfl, F1, n, rfl, hn24, hn, hcd, hg_F1, hq_F1⟩
      have hfl : FLf E F1 := fun q h1 h2 h3 h4 => (hq_F1 q (by omega) (by omega) (by omega) (by omega) (by omega) (by omega) (by omega) (by omega)).trans (wr_row (by omega))
      have hLF := hL_E.fr hfl ⟨_, hg_F1⟩
      have h65 : F1 65 = E 65 := (hq_F1 65 (by omega) (by omega) (by omega) (by omega) (by omega) (by omega) (by omega) (by omega)).trans (wr_row (by omega))
      have hiff := fell_iff (G := (setL (gNow P L d) (LM (sLc P) (gnP (gNow P L d) (sB P) T r) (p.map cl)))) (B := sB P) (T := T) hN8 hw8 hn24 hn
      refine at_aload_n 57 X rfl rfl dX11_findLamps_56 rfl ?_
      refine m_getR 60 X f_X11_73 k_0 r_0_12 dX11_findLamps_57 rfl ?_
      refine m_getIV 63 X ((mk (fun k => decide (¬ dF (dyP (setL (gNow P L d) (LM (sLc P) (gnP (gNow P L d) (sB P) T r) (p.map cl))) (sB P) T n) k = -1)) 8 : Nat) : Int) hcd.1.2.2.2.2 f_X11_284 k_54 rn_54_6 dX11_findLamps_60 rfl ?_
      have hm8 := mk_le (p := fun k => decide (¬ dF (dyP (setL (gNow P L d) (LM (sLc P) (gnP (gNow P L d) (sB P) T r) (p.map cl))) (sB P) T n) k = -1)) (n := 8) (k := 8) (Nat.le_refl 8)
      refine at_iload_n 64 X rfl rfl dX11_findLamps_63 rfl ?_
      refine at_iandV 65 X ((mk (fun k => decide (¬ dF (dyP (setL (gNow P L d) (LM (sLc P) (gnP (gNow P L d) (sB P) T r) (p.map cl))) (sB P) T n) k = -1)) 8 &&& w : Nat) : Int) (iand_nat (by omega) (by omega)) dX11_findLamps_64 rfl ?_
      refine at_if_ne 68 72 X dX11_findLamps_65 rfl (by decide) (fun h65_ => ?_) (fun h65_ => ?_)
      · refine at_iconst 73 X (by decide) dX11_findLamps_72 rfl ?_
        refine at_zret X Rt ?_ (by first | decide | (split <;> decide)) (Nat.le_refl _) (Nat.le_refl _) dX11_findLamps_73
        exact ⟨0, F1, rfl, rfl, hLF.1, hLF.2, fun i _ => by rw [h65], FLQ.zero (fun q => h65_ (by rw [hiff.mpr q]; rfl))⟩
      · refine at_iconst 69 X (by decide) dX11_findLamps_68 rfl ?_
        refine at_goto 73 X dX11_findLamps_69 (by decide) ?_
        refine at_zret X Rt ?_ (by first | decide | (split <;> decide)) (Nat.le_refl _) (Nat.le_refl _) dX11_findLamps_73
        exact ⟨1, F1, rfl, rfl, hLF.1, hLF.2, fun i _ => by rw [h65], FLQ.one (hiff.mp (by omega)) (by unfold PKr; rw [h65]; exact hpk)⟩
    · have h19 : ¬ (lit &&& nl = nl ∧ lit &&& nd = 0) := ite_no.mp h19
      refine at_iconst 23 X (by decide) dX11_findLamps_22 rfl ?_
      refine at_zret X Rt ?_ (by first | decide | (split <;> decide)) (Nat.le_refl _) (Nat.le_refl _) dX11_findLamps_23
      exact ⟨0, E, rfl, rfl, hL_E, CXF.rf, fun _ _ => rfl, FLQ.zero (fun q => h19 (by rw [hlit]; exact good_allows hwG.W hP.B hL_E.1.WT hL_E.2.2.2.2.2.1 hL_E.2.2.2.2.2.2 q))⟩
  · exfalso; omega
