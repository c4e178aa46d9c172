/-! lamps: the search of the reference -/
def dsB (r x c : Nat) : Bool := decide (c ≤ x + r) && decide (x ≤ c + r)
theorem laB_row {lx lr : Nat → Nat} {r c : Nat} : ∀ (l : List Nat) (n0 : Nat), (∀ k, k < l.length → lx (n0 + k) = l.getD k 0 ∧ lr (n0 + k) = r) → laB lx lr c (n0 + l.length) = l.foldl (fun b x => b || dsB r x c) (laB lx lr c n0)
  | [], _, _ => rfl
  | x :: t, n0, h => by
    have h0 := h 0 (Nat.zero_lt_succ _)
    have ih := laB_row (lx := lx) (lr := lr) (r := r) (c := c) t (n0 + 1) (fun k hk => by
      have := h (k + 1) (Nat.succ_lt_succ hk)
      rw [show n0 + 1 + k = n0 + (k + 1) by omega]
      exact this)
    rw [show n0 + (x :: t).length = n0 + 1 + t.length by show n0 + (t.length + 1) = _; omega, ih, laB_s]
    rw [show n0 + 0 = n0 from rfl] at h0
    rw [h0.1, h0.2]
    rfl
def FRd (P : SP) (L : LW) (T : LN) (d w r : Nat) (l : List Nat) : Prop := GDp (setL (gDay P L d) (LM (sLc P) (dsB r) l)) (sB P) T w
def RLo (E : Mm) (n0 r : Nat) (l : List Nat) : Prop := ∀ k, k < l.length → E (209 + (n0 + k)) 0 = (l.getD k 0 : Int) ∧ E (209 + (n0 + k)) 1 = (r : Int)
theorem RLo.fr {E E1 : Mm} {n0 r : Nat} {l : List Nat} (h : RLo E n0 r l) (hf : ∀ k, k < l.length → E1 (209 + (n0 + k)) = E (209 + (n0 + k))) : RLo E1 n0 r l := fun k hk => by rw [hf k hk]; exact h k hk
theorem RLo.snoc {E E1 : Mm} {n0 r x : Nat} {l : List Nat} (h : RLo E n0 r l) (hf : ∀ k, k < l.length → E1 (209 + (n0 + k)) = E (209 + (n0 + k))) (h0 : E1 (209 + (n0 + l.length)) 0 = (x : Int)) (h1 : E1 (209 + (n0 + l.length)) 1 = (r : Int)) : RLo E1 n0 r (l ++ [x]) := by
  intro k hk
  rw [List.length_append] at hk
  have hk' : k < l.length + 1 := hk
  by_cases e : k = l.length
  · subst e
    rw [List.getD_eq_getElem?_getD, List.getElem?_append_right (Nat.le_refl _), Nat.sub_self]
    exact ⟨h0, h1⟩
  · rw [hf k (by omega), List.getD_eq_getElem?_getD, List.getElem?_append_left (by omega), ← List.getD_eq_getElem?_getD]
    exact h k (by omega)
/-- lamps told and a row more, as the reference holds them -/
theorem RLo.lamps {E : Mm} {P : SP} {Q : RX} {L : LW} {d r : Nat} {l : List Nat} (hR : RTS E P Q) (hP : WS P) (h53 : E 125 53 = ((sLn P + l.length : Nat) : Int)) (h : RLo E (sLn P) r l) (hr : r ≤ 9) (hl : l.length ≤ 3) (hx : ∀ x, x ∈ l → x < sW P) : RLg E (setL (gDay P L d) (LM (sLc P) (dsB r) l)) (sLn P + l.length) (fun k => if k < sLn P then xLx Q k else l.getD (k - sLn P) 0) (fun k => if k < sLn P then xLr Q k else r) := by
  have hLn := hP.Ln
  have hW := hP.W
  refine ⟨h53, by omega, fun k hk => ?_, fun c hc => ?_⟩
  · show E (209 + k) 0 = ((if k < sLn P then xLx Q k else l.getD (k - sLn P) 0 : Nat) : Int) ∧ E (209 + k) 1 = ((if k < sLn P then xLr Q k else r : Nat) : Int) ∧ (if k < sLn P then xLx Q k else l.getD (k - sLn P) 0) < 40 ∧ (if k < sLn P then xLr Q k else r) ≤ 9
    by_cases e : k < sLn P
    · rw [if_pos e, if_pos e]; exact hR.2.2.2.2.2.1.1 k e
    · rw [if_neg e, if_neg e]
      have h1 := h (k - sLn P) (by omega)
      rw [show sLn P + (k - sLn P) = k by omega] at h1
      exact ⟨h1.1, h1.2, by have := hx _ (getD_mem (t := l) (i := k - sLn P) (by omega)); omega, hr⟩
  · have hc' : c < sW P := hc
    show LM (sLc P) (dsB r) l c = _
    rw [laB_row (r := r) l (sLn P) (fun k hk => by
      rw [if_neg (by omega), if_neg (by omega), show sLn P + k - sLn P = k by omega]
      exact ⟨rfl, rfl⟩)]
    have e : laB (fun k => if k < sLn P then xLx Q k else l.getD (k - sLn P) 0) (fun k => if k < sLn P then xLr Q k else r) c (sLn P) = sLc P c := by
      rw [hR.2.2.2.2.2.1.2 c (by omega)]
      have key : ∀ n, n ≤ sLn P → laB (fun k => if k < sLn P then xLx Q k else l.getD (k - sLn P) 0) (fun k => if k < sLn P then xLr Q k else r) c n = laB (xLx Q) (xLr Q) c n := by
        intro n
        induction n with
        | zero => intro _; rfl
        | succ n ih =>
          intro hn
          rw [laB_s, laB_s, ih (by omega), if_pos (by omega), if_pos (by omega)]
      exact key _ (Nat.le_refl _)
    rw [e]
    rfl
def RLS (E : Mm) (Q : RX) (P : SP) (L : LW) (T K : LN) (d st : Nat) : Prop := RXI E Q P L T K d st ∧ E 125 52 = (sN P : Int) ∧ E 125 54 = (mk (sC P) 24 : Nat) ∧ RRw E (gDay P L d) 24
def RLf (P : SP) (E E1 : Mm) : Prop := RXF P E E1 ∧ E1 125 0 = E 125 0 ∧ E1 127 = E 127
theorem RLf.rf {P : SP} {E : Mm} : RLf P E E := ⟨RXF.rf, rfl, rfl⟩
theorem RLf.tr {P : SP} {E E1 E2 : Mm} (h : RLf P E E1) (h2 : RLf P E1 E2) : RLf P E E2 := ⟨h.1.tr h2.1, h2.2.1.trans h.2.1, h2.2.2.trans h.2.2⟩
theorem RLS.fr {E E1 : Mm} {Q : RX} {P : SP} {L : LW} {T K : LN} {d st : Nat} (h : RLS E Q P L T K d st) (hWf : WF P L T K d st) (hX : RXF P E E1) (hK : RKn E1 L st) (h52 : E1 125 52 = E 125 52) (h54 : E1 125 54 = E 125 54) (hr : ∀ q, 658 ≤ q → q ≤ 681 → E1 q = E q) : RLS E1 Q P L T K d st :=
  ⟨h.1.fr hWf hX hK, h52.trans h.2.1, h54.trans h.2.2.1, fun t c ht hc => by rw [hr (658 + t) (by omega) (by omega)]; exact h.2.2.2 t c ht hc⟩
/-- found: a row, the first of the good ones -/
def RFo (P : SP) (L : LW) (T : LN) (d w r : Nat) (p : List Nat) (f n : Nat) (E1 : Mm) : Prop := ∃ t, incL (sW P) f t ∧ t.length = n ∧ FRd P L T d w r (p ++ t) ∧ (∀ t', incL (sW P) f t' → t'.length = n → FRd P L T d w r (p ++ t') → dgt (p ++ t) ≤ dgt (p ++ t')) ∧ E1 125 62 = ((p ++ t).length : Int) ∧ E1 125 63 = (dgt (p ++ t) : Int)
def RLQ (P : SP) (L : LW) (T : LN) (d w r : Nat) (p : List Nat) (f n : Nat) (E1 : Mm) : Prop := (E1 125 62 = -1 ∧ ∀ t, incL (sW P) f t → t.length = n → ¬ FRd P L T d w r (p ++ t)) ∨ RFo P L T d w r p f n E1
def RNo (P : SP) (L : LW) (T : LN) (d w r : Nat) (p : List Nat) (f n x : Nat) : Prop := ∀ j t, f ≤ j → j < x → incL (sW P) (j + 1) t → t.length = n → ¬ FRd P L T d w r (p ++ j :: t)
def RLp (E E1 : Mm) (Q : RX) (P : SP) (L : LW) (T K : LN) (d st w r : Nat) (p : List Nat) (f n : Nat) : Prop :=
  RLS E1 Q P L T K d st ∧ RLf P E E1 ∧ (∀ k, k < p.length → E1 (209 + (sLn P + k)) = E (209 + (sLn P + k))) ∧ (¬ E 125 62 = -1 → E1 125 62 = E 125 62 ∧ E1 125 63 = E 125 63) ∧ (E 125 62 = -1 → RLQ P L T d w r p f n E1)
theorem RFo.fr {P : SP} {L : LW} {T : LN} {d w r : Nat} {p : List Nat} {f n : Nat} {E1 E2 : Mm} (h : RFo P L T d w r p f n E1) (h1 : E2 125 62 = E1 125 62) (h2 : E2 125 63 = E1 125 63) : RFo P L T d w r p f n E2 := by
  obtain ⟨t, t1, t2, t3, t4, t5, t6⟩ := h
  exact ⟨t, t1, t2, t3, t4, h1.trans t5, h2.trans t6⟩
theorem RNo.step {P : SP} {L : LW} {T : LN} {d w r : Nat} {p : List Nat} {f n x : Nat} {F E1 : Mm} (hW : sW P ≤ 40) (h : (F 125 62 = -1 ∧ RNo P L T d w r p f n x) ∨ RFo P L T d w r p f (n + 1) F) (h0 : ¬ F 125 62 = -1 → E1 125 62 = F 125 62 ∧ E1 125 63 = F 125 63) (h1 : F 125 62 = -1 → RLQ P L T d w r (p ++ [x]) (x + 1) n E1) (hfx : f ≤ x) (hx : x < sW P) : (E1 125 62 = -1 ∧ RNo P L T d w r p f n (x + 1)) ∨ RFo P L T d w r p f (n + 1) E1 := by
  rcases h with ⟨h2, h3⟩ | h2
  · rcases h1 h2 with ⟨q1, q2⟩ | ⟨t, t1, t2, t3, t4, t5, t6⟩
    · refine Or.inl ⟨q1, fun j t a b c e => ?_⟩
      by_cases k : j = x
      · subst k; rw [snoc_app]; exact q2 t c e
      · exact h3 j t a (by omega) c e
    · refine Or.inr ⟨x :: t, ⟨⟨hfx, hx⟩, t1⟩, by show t.length + 1 = n + 1; omega, by rw [snoc_app]; exact t3, fun t' a b c => ?_, by rw [snoc_app]; exact t5, by rw [snoc_app]; exact t6⟩
      match t', a, b, c with
      | [], _, b, _ => cases b
      | j :: u, a, b, c =>
        have b' : u.length = n := by have : u.length + 1 = n + 1 := b; omega
        by_cases e : j = x
        · subst e
          rw [snoc_app p j t, snoc_app p j u]
          rw [snoc_app p j u] at c
          exact t4 u a.2 b' c
        · by_cases k : j < x
          · exact absurd c (h3 j u a.1.1 k a.2 b')
          · exact Nat.le_of_lt (dgt_first (show x < j by omega) (by omega) (fun y hy => by have := incL_mem t1 y hy; omega))
  · have hn : ¬ F 125 62 = -1 := by
      obtain ⟨t, _, _, _, _, t5, _⟩ := h2
      rw [t5]; omega
    exact Or.inr (h2.fr (h0 hn).1 (h0 hn).2)
theorem RNo.all {P : SP} {L : LW} {T : LN} {d w r : Nat} {p : List Nat} {f n : Nat} {F : Mm} (h : (F 125 62 = -1 ∧ RNo P L T d w r p f n (sW P)) ∨ RFo P L T d w r p f (n + 1) F) : RLQ P L T d w r p f (n + 1) F := by
  rcases h with ⟨h1, h2⟩ | h
  · refine Or.inl ⟨h1, fun t a b => ?_⟩
    match t, a, b with
    | [], _, b => cases b
    | j :: t, a, b => exact h2 j t a.1.1 a.1.2 a.2 (by have : t.length + 1 = n + 1 := b; omega)
  · exact Or.inr h
theorem dX12_lights_0 : decode cX12_lights 0 = .ok (.aload_n 0, 1) := by decide +kernel
theorem dX12_lights_1 : decode cX12_lights 1 = .ok (.getfield 423, 3) := by decide +kernel
theorem dX12_lights_4 : decode cX12_lights 4 = .ok (.iconst (-1), 1) := by decide +kernel
theorem dX12_lights_5 : decode cX12_lights 5 = .ok (.if_icmp .eq 4, 3) := by decide +kernel
theorem dX12_lights_8 : decode cX12_lights 8 = .ok (.return_, 1) := by decide +kernel
theorem dX12_lights_9 : decode cX12_lights 9 = .ok (.iload_n 3, 1) := by decide +kernel
theorem dX12_lights_10 : decode cX12_lights 10 = .ok (.ifCond .ne 47, 3) := by decide +kernel
theorem dX12_lights_13 : decode cX12_lights 13 = .ok (.aload_n 0, 1) := by decide +kernel
theorem dX12_lights_14 : decode cX12_lights 14 = .ok (.aload_n 0, 1) := by decide +kernel
theorem dX12_lights_15 : decode cX12_lights 15 = .ok (.getfield 23, 3) := by decide +kernel
theorem dX12_lights_18 : decode cX12_lights 18 = .ok (.iconst 5, 1) := by decide +kernel
theorem dX12_lights_19 : decode cX12_lights 19 = .ok (.iaload, 1) := by decide +kernel
theorem dX12_lights_20 : decode cX12_lights 20 = .ok (.iload_n 2, 1) := by decide +kernel
theorem dX12_lights_21 : decode cX12_lights 21 = .ok (.iadd, 1) := by decide +kernel
theorem dX12_lights_22 : decode cX12_lights 22 = .ok (.putfield 333, 3) := by decide +kernel
theorem dX12_lights_25 : decode cX12_lights 25 = .ok (.aload_n 0, 1) := by decide +kernel
theorem dX12_lights_26 : decode cX12_lights 26 = .ok (.invokevirtual 369, 3) := by decide +kernel
theorem dX12_lights_29 : decode cX12_lights 29 = .ok (.aload_n 0, 1) := by decide +kernel
theorem dX12_lights_30 : decode cX12_lights 30 = .ok (.invokevirtual 397, 3) := by decide +kernel
theorem dX12_lights_33 : decode cX12_lights 33 = .ok (.pop, 1) := by decide +kernel
theorem dX12_lights_34 : decode cX12_lights 34 = .ok (.aload_n 0, 1) := by decide +kernel
theorem dX12_lights_35 : decode cX12_lights 35 = .ok (.invokevirtual 407, 3) := by decide +kernel
theorem dX12_lights_38 : decode cX12_lights 38 = .ok (.iload 5, 2) := by decide +kernel
theorem dX12_lights_40 : decode cX12_lights 40 = .ok (.iand, 1) := by decide +kernel
theorem dX12_lights_41 : decode cX12_lights 41 = .ok (.ifCond .eq 4, 3) := by decide +kernel
theorem dX12_lights_44 : decode cX12_lights 44 = .ok (.return_, 1) := by decide +kernel
theorem dX12_lights_45 : decode cX12_lights 45 = .ok (.aload_n 0, 1) := by decide +kernel
theorem dX12_lights_46 : decode cX12_lights 46 = .ok (.iload_n 2, 1) := by decide +kernel
theorem dX12_lights_47 : decode cX12_lights 47 = .ok (.putfield 423, 3) := by decide +kernel
theorem dX12_lights_50 : decode cX12_lights 50 = .ok (.aload_n 0, 1) := by decide +kernel
theorem dX12_lights_51 : decode cX12_lights 51 = .ok (.iload 6, 2) := by decide +kernel
theorem dX12_lights_53 : decode cX12_lights 53 = .ok (.putfield 426, 3) := by decide +kernel
theorem dX12_lights_56 : decode cX12_lights 56 = .ok (.return_, 1) := by decide +kernel
theorem dX12_lights_57 : decode cX12_lights 57 = .ok (.iload_n 1, 1) := by decide +kernel
theorem dX12_lights_58 : decode cX12_lights 58 = .ok (.istore 7, 2) := by decide +kernel
theorem dX12_lights_60 : decode cX12_lights 60 = .ok (.iload 7, 2) := by decide +kernel
theorem dX12_lights_62 : decode cX12_lights 62 = .ok (.aload_n 0, 1) := by decide +kernel
theorem dX12_lights_63 : decode cX12_lights 63 = .ok (.getfield 23, 3) := by decide +kernel
theorem dX12_lights_66 : decode cX12_lights 66 = .ok (.iconst 0, 1) := by decide +kernel
theorem dX12_lights_67 : decode cX12_lights 67 = .ok (.iaload, 1) := by decide +kernel
theorem dX12_lights_68 : decode cX12_lights 68 = .ok (.if_icmp .ge 69, 3) := by decide +kernel
theorem dX12_lights_71 : decode cX12_lights 71 = .ok (.aload_n 0, 1) := by decide +kernel
theorem dX12_lights_72 : decode cX12_lights 72 = .ok (.getfield 55, 3) := by decide +kernel
theorem dX12_lights_75 : decode cX12_lights 75 = .ok (.aload_n 0, 1) := by decide +kernel
theorem dX12_lights_76 : decode cX12_lights 76 = .ok (.getfield 23, 3) := by decide +kernel
theorem dX12_lights_79 : decode cX12_lights 79 = .ok (.iconst 5, 1) := by decide +kernel
theorem dX12_lights_80 : decode cX12_lights 80 = .ok (.iaload, 1) := by decide +kernel
theorem dX12_lights_81 : decode cX12_lights 81 = .ok (.iload_n 2, 1) := by decide +kernel
theorem dX12_lights_82 : decode cX12_lights 82 = .ok (.iadd, 1) := by decide +kernel
theorem dX12_lights_83 : decode cX12_lights 83 = .ok (.aaload, 1) := by decide +kernel
theorem dX12_lights_84 : decode cX12_lights 84 = .ok (.iconst 0, 1) := by decide +kernel
theorem dX12_lights_85 : decode cX12_lights 85 = .ok (.iload 7, 2) := by decide +kernel
theorem dX12_lights_87 : decode cX12_lights 87 = .ok (.iastore, 1) := by decide +kernel
theorem dX12_lights_88 : decode cX12_lights 88 = .ok (.aload_n 0, 1) := by decide +kernel
theorem dX12_lights_89 : decode cX12_lights 89 = .ok (.getfield 55, 3) := by decide +kernel
theorem dX12_lights_92 : decode cX12_lights 92 = .ok (.aload_n 0, 1) := by decide +kernel
theorem dX12_lights_93 : decode cX12_lights 93 = .ok (.getfield 23, 3) := by decide +kernel
theorem dX12_lights_96 : decode cX12_lights 96 = .ok (.iconst 5, 1) := by decide +kernel
theorem dX12_lights_97 : decode cX12_lights 97 = .ok (.iaload, 1) := by decide +kernel
theorem dX12_lights_98 : decode cX12_lights 98 = .ok (.iload_n 2, 1) := by decide +kernel
theorem dX12_lights_99 : decode cX12_lights 99 = .ok (.iadd, 1) := by decide +kernel
theorem dX12_lights_100 : decode cX12_lights 100 = .ok (.aaload, 1) := by decide +kernel
theorem dX12_lights_101 : decode cX12_lights 101 = .ok (.iconst 1, 1) := by decide +kernel
theorem dX12_lights_102 : decode cX12_lights 102 = .ok (.iload 4, 2) := by decide +kernel
theorem dX12_lights_104 : decode cX12_lights 104 = .ok (.iastore, 1) := by decide +kernel
theorem dX12_lights_105 : decode cX12_lights 105 = .ok (.aload_n 0, 1) := by decide +kernel
theorem dX12_lights_106 : decode cX12_lights 106 = .ok (.iload 7, 2) := by decide +kernel
theorem dX12_lights_108 : decode cX12_lights 108 = .ok (.iconst 1, 1) := by decide +kernel
theorem dX12_lights_109 : decode cX12_lights 109 = .ok (.iadd, 1) := by decide +kernel
theorem dX12_lights_110 : decode cX12_lights 110 = .ok (.iload_n 2, 1) := by decide +kernel
theorem dX12_lights_111 : decode cX12_lights 111 = .ok (.iconst 1, 1) := by decide +kernel
theorem dX12_lights_112 : decode cX12_lights 112 = .ok (.iadd, 1) := by decide +kernel
theorem dX12_lights_113 : decode cX12_lights 113 = .ok (.iload_n 3, 1) := by decide +kernel
theorem dX12_lights_114 : decode cX12_lights 114 = .ok (.iconst 1, 1) := by decide +kernel
theorem dX12_lights_115 : decode cX12_lights 115 = .ok (.isub, 1) := by decide +kernel
theorem dX12_lights_116 : decode cX12_lights 116 = .ok (.iload 4, 2) := by decide +kernel
theorem dX12_lights_118 : decode cX12_lights 118 = .ok (.iload 5, 2) := by decide +kernel
theorem dX12_lights_120 : decode cX12_lights 120 = .ok (.bipush 64, 2) := by decide +kernel
theorem dX12_lights_122 : decode cX12_lights 122 = .ok (.iload 6, 2) := by decide +kernel
theorem dX12_lights_124 : decode cX12_lights 124 = .ok (.imul, 1) := by decide +kernel
theorem dX12_lights_125 : decode cX12_lights 125 = .ok (.iload 7, 2) := by decide +kernel
theorem dX12_lights_127 : decode cX12_lights 127 = .ok (.iadd, 1) := by decide +kernel
theorem dX12_lights_128 : decode cX12_lights 128 = .ok (.invokevirtual 429, 3) := by decide +kernel
theorem dX12_lights_131 : decode cX12_lights 131 = .ok (.iinc 7 1, 3) := by decide +kernel
theorem dX12_lights_134 : decode cX12_lights 134 = .ok (.goto (-74), 3) := by decide +kernel
theorem dX12_lights_137 : decode cX12_lights 137 = .ok (.return_, 1) := by decide +kernel
theorem ct_light0 {g : Gw} (hG : GF g) {z : Bool} (Q : RX) (P : SP) (L : LW) (T K : LN) (d st w r : Nat) (hWf : WF P L T K d st) (hw8 : w < 2 ^ bN (sB P)) (hr9 : r ≤ 9) (E : Mm) (p : List Nat) (f n left dg : Nat) (hS_E : RLS E Q P L T K d st) (hro : RLo E (sLn P) r p) (hn : n = p.length) (hdg : dg = dgt p) (hpW : ∀ x, x ∈ p → x < sW P) (hl0 : left = 0) (hn3 : n ≤ 3) : CT g yX12_lights cX12_lights 8 none 5 115 0 0 K2 z [mR 125, mI ((f : Nat) : Int), mI ((n : Nat) : Int), mI ((left : Nat) : Int), mI ((r : Nat) : Int), mI ((w : Nat) : Int), mI ((dg : Nat) : Int)] (ov E) K2 z (fun r' D' => r' = none ∧ ∃ E1, D' = ov E1 ∧ RLp E E1 Q P L T K d st w r p f left) := by
  refine CT.mk hG (by decide +kernel) (Nat.le_of_ble_eq_true rfl) (fun κ X Rt _ ok => ?_)
  have hP := hWf.1
  have hW40 := hP.W
  have hN8 := hP.B.N
  have hLn := hP.Ln
  have hst : st < 2147483648 := by have := hWf.2.2.2.2.2.2; omega
  have hR_E := hS_E.1.1
  have hwG := gOf_WG hP hWf.2.2.1 (moonP_in P d).2
  have hw256 : w < 256 := by
    have h2 := Nat.pow_le_pow_right (show 0 < 2 by decide) hN8
    rw [show (2 : Nat) ^ 8 = 256 by decide] at h2
    omega
  have hdgl : dg < 64 ^ p.length := by rw [hdg]; exact dgt_lt64 p (fun x hx => by have := hpW x hx; omega)
  have hdg3 : dg < 262144 := Nat.lt_of_lt_of_le hdgl (by have := Nat.pow_le_pow_right (show 0 < 64 by decide) (show p.length ≤ 3 by omega); rw [show (64 : Nat) ^ 3 = 262144 by decide] at this; exact this)
  have hleft : left = 0 := hl0
  refine at_aload_n 1 X rfl rfl dX12_lights_0 rfl ?_
  refine m_getIV 4 X (E 125 62) rfl f_X12_423 k_125 rn_125_62 dX12_lights_1 rfl ?_
  refine at_iconst 5 X (by decide) dX12_lights_4 rfl ?_
  refine at_icmp_eq 8 9 X dX12_lights_5 rfl (by decide) (fun h5 => ?_) (fun h5 => ?_)
  · refine at_iload_n 10 X rfl rfl dX12_lights_9 rfl ?_
    refine at_if_ne 13 57 X dX12_lights_10 rfl (by decide) (fun h10 => ?_) (fun h10 => ?_)
    · exfalso; omega
    · refine at_aload_n 14 X rfl rfl dX12_lights_13 rfl ?_
      refine at_aload_n 15 X rfl rfl dX12_lights_14 rfl ?_
      refine m_getR 18 X f_X12_23 k_125 r_125_12 dX12_lights_15 rfl ?_
      refine at_iconst 19 X (by decide) dX12_lights_18 rfl ?_
      refine m_ialoadV 20 X 5 (by omega) ((sLn P : Nat) : Int) hR_E.1.2.2.2.2.2.1 k_129 e_129 (by omega) dX12_lights_19 rfl ?_
      have := hP.Ln
      refine at_iload_n 21 X rfl rfl dX12_lights_20 rfl ?_
      refine at_iaddV 22 X ((sLn P + n : Nat) : Int) (w32_v (by omega) (by omega) (by omega)) dX12_lights_21 rfl ?_
      refine m_putI 25 X f_X12_333 fw_12_53 k_125 rn_125_53 dX12_lights_22 rfl ?_
      refine at_aload_n 26 X rfl rfl dX12_lights_25 rfl ?_
      generalize hF0 : wr E 125 53 ((sLn P + n : Nat) : Int) = F0
      have hq0 : ∀ q, q ≠ 125 → F0 q = E q := fun q h => by rw [← hF0]; exact wr_row h
      have h0 : ∀ k, k ≠ 53 → F0 125 k = E 125 k := fun k h => by rw [← hF0]; exact wr_o (by omega)
      have hR0 : RTS F0 P Q := hR_E.fr (fun q hq => hq0 q (by omega)) hP
      have hlg := RLo.lamps (L := L) (d := d) hR0 hP (by rw [← hF0, wr_s, hn]) (hro.fr (fun k _ => hq0 _ (by omega))) hr9 (by omega) hpW
      have htg := told_G (E1 := wr F0 125 53 (sLn P : Int)) (mo := moonP P d) (L := L) hR_E hP ((wr_o (by omega)).trans ((h0 52 (by omega)).trans hS_E.2.1)) (wr_s _ _ _ _) ((wr_o (by omega)).trans ((h0 54 (by omega)).trans hS_E.2.2.1)) (fun q h => (wr_row (by omega)).trans (hq0 q (by omega)))
      have hpg : RPg F0 (setL (gDay P L d) (LM (sLc P) (dsB r) p)) := ⟨(h0 52 (by omega)).trans hS_E.2.1, fun k hk => by have := htg.1.2 k hk; rw [wr_row (show 142 + k ≠ 125 by omega)] at this; exact this⟩
      have hrw : RRw F0 (setL (gDay P L d) (LM (sLc P) (dsB r) p)) 24 := fun t c ht hc => by rw [hq0 (658 + t) (by omega)]; exact hS_E.2.2.2 t c ht hc
      refine at_callV 29 X _ 12 (ct_X12_laysShades hG F0 P Q hP hR0 (setL (gDay P L d) (LM (sLc P) (dsB r) p)) (setL_WG hwG _).R rfl hpg _ _ _ hlg ((h0 54 (by omega)).trans hS_E.2.2.1) hrw (hS_E.1.2.1.fr hWf.2.2.1.2.1 (h0 28 (by omega)) (fun q a b => hq0 q (by omega))) st hst (hS_E.1.2.2.1.fr (h0 30 (by omega)) (hq0 578 (by decide)) (hq0 579 (by decide)))) clX12 rfl k_125 mo_X12_laysShades w_2174 vo_X12_laysShades.1 vo_X12_laysShades.2 rfl rfl (crm Rt (by decide)) (Nat.le_of_ble_eq_true rfl) dX12_lights_26 rfl ?_
      rintro _ _ ⟨rfl, F1, rfl, hs_F1, hK_F1, hq_F1⟩
      refine at_aload_n 30 X rfl rfl dX12_lights_29 rfl ?_
      have hT16 := hWf.2.2.2.1.1
      refine at_callV 33 X _ 12 (ct_X12_runs hG F1 P Q hP (hR0.frN (fun q hq => hq_F1 q (by omega) (by omega) (by omega)) hP) (setL (gDay P L d) (LM (sLc P) (dsB r) p)) T ⟨by rw [hq_F1 125 (by omega) (by omega) (by omega), h0 43 (by omega)]; exact hS_E.1.2.2.2.1.1, fun i hi => by rw [hq_F1 (581 + i) (by omega) (by omega) (by omega), hq0 (581 + i) (by omega)]; exact hS_E.1.2.2.2.1.2 i hi⟩ hWf.2.2.2.1 (fun h c hh hc => (hs_F1 h c hh hc).2)) clX12 rfl k_125 mo_X12_runs w_2205 vo_X12_runs.1 vo_X12_runs.2 rfl rfl (crm Rt (by decide)) (Nat.le_of_ble_eq_true rfl) dX12_lights_30 rfl ?_
      rintro _ _ ⟨rfl, F2, rfl, hd2, hh2, hf2⟩
      refine at_pop 34 X (show ¬ (0 : Nat) = 1 by decide) dX12_lights_33 rfl ?_
      refine at_aload_n 35 X rfl rfl dX12_lights_34 rfl ?_
      refine at_callV 38 X _ 12 (ct_X12_fallenBits hG F2 hd2 (dyP_DI hP.B hWf.2.2.2.1 (Nat.le_refl 24)) hN8 (dyP_OKO _ _ _ 24)) clX12 rfl k_125 mo_X12_fallenBits w_2249 vo_X12_fallenBits.1 vo_X12_fallenBits.2 rfl rfl (crm Rt (by decide)) (Nat.le_of_ble_eq_true rfl) dX12_lights_35 rfl ?_
      rintro _ _ ⟨rfl, rfl⟩
      have hm8 := mk_le (p := fun k => decide (¬ dF (dyP (setL (gDay P L d) (LM (sLc P) (dsB r) p)) (sB P) T 24) k = -1)) (n := 8) (k := 8) (Nat.le_refl 8)
      have hiff := fell_iff (G := (setL (gDay P L d) (LM (sLc P) (dsB r) p))) (B := sB P) (T := T) hN8 hw8 (Nat.le_refl 24) (Or.inl rfl)
      have hX2 : RXF P E F2 := ⟨fun q h => (hf2.1 q (by omega) (by omega) (by omega)).trans ((hq_F1 q (by omega) (by omega) (by omega)).trans (hq0 q (by omega))), fun k h => (hf2.2 k (by omega)).trans (by rw [hq_F1 125 (by omega) (by omega) (by omega)]; exact h0 k (by omega))⟩
      have h125 : ∀ k, k ≠ 53 → k ≠ 60 → F2 125 k = E 125 k := fun k a b => (hf2.2 k b).trans (by rw [hq_F1 125 (by omega) (by omega) (by omega)]; exact h0 k a)
      have hrow : ∀ k, F2 (209 + (sLn P + k)) = E (209 + (sLn P + k)) ∨ 9 < sLn P + k := fun k => if q : sLn P + k ≤ 9 then Or.inl ((hf2.1 _ (by omega) (by omega) (by omega)).trans ((hq_F1 _ (by omega) (by omega) (by omega)).trans (hq0 _ (by omega)))) else Or.inr (by omega)
      have hS2 : RLS F2 Q P L T K d st := hS_E.fr hWf hX2 (hK_F1.fr (hf2.2 30 (by decide)) (hf2.1 578 (by omega) (by omega) (by omega)) (hf2.1 579 (by omega) (by omega) (by omega))) (h125 52 (by decide) (by decide)) (h125 54 (by decide) (by decide)) (fun q a b => (hf2.1 q (by omega) (by omega) (by omega)).trans ((hq_F1 q (by omega) (by omega) (by omega)).trans (hq0 q (by omega))))
      have hf2E : RLf P E F2 := ⟨hX2, h125 0 (by decide) (by decide), (hf2.1 127 (by omega) (by omega) (by omega)).trans ((hq_F1 127 (by omega) (by omega) (by omega)).trans (hq0 127 (by omega)))⟩
      refine at_iload 40 X rfl dX12_lights_38 rfl ?_
      refine at_iandV 41 X (((mk (fun k => decide (¬ dF (dyP (setL (gDay P L d) (LM (sLc P) (dsB r) p)) (sB P) T 24) k = -1)) 8 &&& w) : Nat) : Int) (iand_nat (by omega) (by omega)) dX12_lights_40 rfl ?_
      refine at_if_eq 44 45 X dX12_lights_41 rfl (by decide) (fun h41 => ?_) (fun h41 => ?_)
      · refine at_aload_n 46 X rfl rfl dX12_lights_45 rfl ?_
        refine at_iload_n 47 X rfl rfl dX12_lights_46 rfl ?_
        refine m_putI 50 X f_X12_423 fw_12_62 k_125 rn_125_62 dX12_lights_47 rfl ?_
        refine at_aload_n 51 X rfl rfl dX12_lights_50 rfl ?_
        refine at_iload 53 X rfl dX12_lights_51 rfl ?_
        refine m_putI 56 X f_X12_426 fw_12_63 k_125 rn_125_63 dX12_lights_53 rfl ?_
        refine at_vret X Rt ?_ (Nat.le_refl _) (Nat.le_refl _) dX12_lights_56
        have hX3 : RXF P F2 (wr (wr F2 125 62 ((n : Nat) : Int)) 125 63 ((dg : Nat) : Int)) := ⟨fun q h => by simp (disch := omega) only [wr_row], fun k h => by simp (disch := omega) only [wr_o]⟩
        have hS3 := hS2.fr hWf hX3 (hS2.1.2.2.1.fr (by simp (disch := omega) only [wr_o]) (by simp (disch := omega) only [wr_row]) (by simp (disch := omega) only [wr_row])) (by simp (disch := omega) only [wr_o]) (by simp (disch := omega) only [wr_o]) (fun q a b => by simp (disch := omega) only [wr_row])
        exact ⟨rfl, _, rfl, hS3, hf2E.tr ⟨hX3, by simp (disch := omega) only [wr_o], by simp (disch := omega) only [wr_row]⟩, fun k hk => (show _ = F2 _ by simp (disch := omega) only [wr_row]).trans ((hrow k).resolve_right (by omega)), fun q => absurd h5 q, fun _ => Or.inr ⟨[], trivial, hl0.symm, by rw [List.append_nil]; exact hiff.mp (by omega), fun t' _ hl _ => by rw [List.length_eq_zero_iff.mp (hl.trans hleft)]; exact Nat.le_refl _, by rw [List.append_nil, wr_o (by omega), wr_s, hn], by rw [List.append_nil, wr_s, hdg]⟩⟩
      · refine at_vret X Rt ?_ (Nat.le_refl _) (Nat.le_refl _) dX12_lights_44
        exact ⟨rfl, F2, rfl, hS2, hf2E, fun k hk => (hrow k).resolve_right (by omega), fun q => absurd h5 q, fun _ => Or.inl ⟨(h125 62 (by decide) (by decide)).trans h5, fun t _ hl q => by
          rw [List.length_eq_zero_iff.mp (hl.trans hleft), List.append_nil] at q
          exact h41 (by rw [hiff.mpr q]; rfl)⟩⟩
  · refine at_vret X Rt ?_ (Nat.le_refl _) (Nat.le_refl _) dX12_lights_8
    exact ⟨rfl, E, rfl, hS_E, RLf.rf, fun _ _ => rfl, fun _ => ⟨rfl, rfl⟩, fun q => absurd q h5⟩
