/-! changes and images on both sides -/
theorem SNR.fr {w w' : Nat → Int} {P : SP} (h : SNR w P) (hP : WS P) (hf : ∀ i, i < 178 → w' i = w i) : SNR w' P := by
  have hN := hP.N
  have h8 := hP.B.N
  refine ⟨fun p hp => (hf p (by omega)).trans (h.1 p hp), fun b hb => ⟨(hf _ (by omega)).trans (h.2 b hb).1, fun p hp => ?_⟩⟩
  have hl := hP.B.L hb
  exact (hf _ (by omega)).trans ((h.2 b hb).2 p hp)
/-- what the reference copies of the street that is told -/
theorem SNR_sn {E : Mm} {P : SP} {Q : RX} (h : RTS E P Q) (hP : WS P) : SNR (snI E) P := by
  have hN := hP.N
  have h8 := hP.B.N
  refine ⟨fun p hp => ?_, fun b hb => ⟨?_, fun p hp => ?_⟩⟩
  · unfold snI
    rw [if_pos (by omega)]; exact (h.2.1 p hp).2
  · unfold snI
    rw [if_neg (by omega), if_pos (by omega), show (10 + 21 * b - 10) / 21 = b by omega]
    exact (h.2.2.2.2.2.2 b hb).1
  · have hl := hP.B.L hb
    unfold snI
    rw [if_neg (by omega), if_neg (by omega), show (10 + 21 * b + 1 + p - 10) / 21 = b by omega, show (10 + 21 * b + 1 + p - 10) % 21 - 1 = p by omega]
    exact (h.2.2.2.2.2.2 b hb).2.2.2 p hp
section
variable {n s d st sz m : Nat} {Q : RX} {P P' : SP} {L : LW} {T K : LN} {C : CHt} {Pi : Nat → SP} {di : Nat → Nat} {Ci : Nat → CHt} {E E1 E2 E3 : Mm} {v : Int} {w : Nat → Int}
/-- the reference with another street's heights, places and loads -/
theorem RXI.copy {d' : Nat} (h : RXI E1 Q P L T K d st) (hWf : WF P L T K d st) (hfr : frm P' = frm P) (hs : SNR w P') (h1 : ∀ i, i < 10 → E2 (142 + i) 1 = w i) (h2 : ∀ i, i < 8 → E2 (228 + i) 0 = w (10 + 21 * i)) (h3 : ∀ i j, i < 8 → j < 20 → E2 (246 + i) j = w (10 + 21 * i + 1 + j)) (hk : ∀ q k, 129 ≤ q → q ≤ 630 → ¬ (142 ≤ q ∧ q ≤ 151 ∧ k = 1) → ¬ (228 ≤ q ∧ q < 228 + 8 ∧ k = 0) → ¬ (246 ≤ q ∧ q < 246 + 8 ∧ k < 20) → E2 q k = E1 q k) (h5 : ∀ k, k = 28 ∨ k = 30 ∨ k = 43 ∨ k = 44 → E2 125 k = E1 125 k) (h45 : E2 125 45 = (d' : Int)) : RXI E2 Q P' L T K d' st := by
  obtain ⟨f1, f2, f3, f4, f5, f6, f7, f8, f9, f10⟩ := frm_is hfr
  have hP := hWf.1
  have hN := hP.N
  have hM := hP.M
  have hC := hP.Cn
  have hLn := hP.Ln
  have hB := hP.B.N
  have hL := hWf.2.2.1.2.1
  have hT := hWf.2.2.2.1.1
  have hKb := hWf.2.2.2.2.1.1
  have hr : ∀ q, ¬ (142 ≤ q ∧ q ≤ 151) → ¬ (228 ≤ q ∧ q ≤ 235) → ¬ (246 ≤ q ∧ q ≤ 253) → 129 ≤ q → q ≤ 630 → E2 q = E1 q := fun q a b c e k => funext fun j => hk q j e k (by omega) (by omega) (by omega)
  obtain ⟨⟨q1, q2, ⟨q3, q4, q5⟩, q6, ⟨q7, q8⟩, ⟨q9, q10⟩, q11⟩, g2, g3, g4, g5, g6⟩ := h
  have a2 : sDk P' = sDk P := congrArg (fun q => q.1) f4
  have a3 : sSl P' = sSl P := congrArg (fun q => q.2.1) f4
  have a4 : sSw P' = sSw P := congrArg (fun q => q.2.2) f4
  have b1 : sM P' = sM P := congrArg (fun q => q.1) f5
  have b2 : sMb P' = sMb P := congrArg (fun q => q.2.1) f5
  have b3 : sMl P' = sMl P := congrArg (fun q => q.2.2.1) f5
  have b4 : sMn P' = sMn P := congrArg (fun q => q.2.2.2) f5
  have c1 : sCn P' = sCn P := congrArg (fun q => q.1) f6
  have c2 : sC P' = sC P := congrArg (fun q => q.2) f6
  have d1 : sLn P' = sLn P := congrArg (fun q => q.1) f7
  have d2 : sLc P' = sLc P := congrArg (fun q => q.2) f7
  refine ⟨⟨?_, fun p hp => ?_, ⟨q3, fun k hk' => ?_, ?_⟩, fun k hk' => ?_, ⟨fun k hk' => ?_, ?_⟩, ⟨fun k hk' => ?_, ?_⟩, fun b hb => ?_⟩, ?_, ?_, ?_, ?_, h45⟩
  · unfold RTo at q1 ⊢
    rw [hr 129 (by omega) (by omega) (by omega) (by omega) (by omega), f1, f2, b1, c1, d1, f8, a2]
    exact q1
  · have hp' : p < sN P := by rw [← f2]; exact hp
    rw [f3, hk (142 + p) 0 (by omega) (by omega) (by omega) (by omega) (by omega), h1 p (by omega)]
    exact ⟨(q2 p hp').1, hs.1 p hp⟩
  · rw [a3, a4, hr (167 + k) (by omega) (by omega) (by omega) (by omega) (by omega)]; exact q4 k hk'
  · rw [a3]; exact q5
  · rw [b1] at hk'
    rw [b2, b3, b4, hr (184 + k) (by omega) (by omega) (by omega) (by omega) (by omega)]; exact q6 k hk'
  · rw [c1] at hk'
    rw [hr (195 + k) (by omega) (by omega) (by omega) (by omega) (by omega)]; exact q7 k hk'
  · rw [c1, c2]; exact q8
  · rw [d1] at hk'
    rw [hr (209 + k) (by omega) (by omega) (by omega) (by omega) (by omega)]; exact q9 k hk'
  · rw [d1, d2]; exact q10
  · have hb' : b < bN (sB P) := by rw [← f8]; exact hb
    have hl := hP.B.L hb'
    have hq := q11 b hb'
    have hw := hs.2 b hb
    rw [h2 b (by omega), hk (228 + b) 1 (by omega) (by omega) (by omega) (by omega) (by omega), hk (228 + b) 2 (by omega) (by omega) (by omega) (by omega) (by omega), f9, f10]
    rw [f9] at hw
    exact ⟨hw.1, hq.2.1, hq.2.2.1, fun p hp => by rw [h3 b p (by omega) (by omega)]; exact hw.2 p hp⟩
  · exact g2.fr hL (h5 28 (by omega)) (fun q a b => hr q (by omega) (by omega) (by omega) (by omega) (by omega))
  · exact g3.fr (h5 30 (by omega)) (hr 578 (by omega) (by omega) (by omega) (by omega) (by omega)) (hr 579 (by omega) (by omega) (by omega) (by omega) (by omega))
  · exact ⟨(h5 43 (by omega)).trans g4.1, fun i hi => by rw [hr (581 + i) (by omega) (by omega) (by omega) (by omega) (by omega)]; exact g4.2 i hi⟩
  · exact ⟨(h5 44 (by omega)).trans g5.1, fun i hi => by rw [hr (615 + i) (by omega) (by omega) (by omega) (by omega) (by omega)]; exact g5.2 i hi⟩
theorem IMb.of {i d' : Nat} {Pj : SP} {C' : CHt} (h : IMb E P i Pj d' C') (e : frm P' = frm P) : IMb E P' i Pj d' C' := ⟨h.1, h.2.1, h.2.2.1.trans e.symm, h.2.2.2⟩
/-- the rows of one changed street are those of the street that is told -/
theorem RXI.one (h : RXI E1 Q P L T K d st) (hWf : WF P L T K d st) (hfr : frm P' = frm P) (hk : ∀ q k, 129 ≤ q → q ≤ 630 → ¬ (142 ≤ q ∧ q ≤ 151 ∧ k = 1) → ¬ (228 ≤ q ∧ q < 228 + 8 ∧ k = 0) → ¬ (246 ≤ q ∧ q < 246 + 8 ∧ k < 20) → E2 q k = E1 q k) (h5 : ∀ k, k = 28 ∨ k = 30 ∨ k = 43 ∨ k = 44 ∨ k = 45 → E2 125 k = E1 125 k) (hs : SNR (snI E2) P') : RXI E2 Q P' L T K d st := by
  refine h.copy hWf hfr hs (fun i hi => ?_) (fun i hi => ?_) (fun i j hi hj => ?_) hk (fun k a => h5 k (by omega)) ((h5 45 (by omega)).trans h.2.2.2.2.2)
  · unfold snI; rw [if_pos hi]
  · unfold snI; rw [if_neg (by omega), if_pos (by omega), show (10 + 21 * i - 10) / 21 = i by omega]
  · unfold snI; rw [if_neg (by omega), if_neg (by omega), show (10 + 21 * i + 1 + j - 10) / 21 = i by omega, show (10 + 21 * i + 1 + j - 10) % 21 - 1 = j by omega]
theorem snI_wr (i : Nat) (hi : i < 178) : snI E i = if i < 10 then E (142 + i) 1 else if (i - 10) % 21 = 0 then E (228 + (i - 10) / 21) 0 else E (246 + (i - 10) / 21) ((i - 10) % 21 - 1) := rfl
/-- a change on both sides -/
theorem INVg.change {kd wh a vl : Nat} (h : INVg n s Q P L T K d st sz C m Pi di Ci E) (hn : n ≤ 4000) (hlt : C.1 < 20) (hI : CXI E1 s P' L T K d) (hC : CCh E1 24 (chW C kd wh a vl)) (hCX : CHX E E1 s) (h18 : E1 0 18 = E 0 18) (hfr : frm P' = frm P) (hW : WCh P' (chW C kd wh a vl)) (hb : unP (chW C kd wh a vl) C.1 P' = P) (hO : CHO (wr E1 813 0 v) E2 C.1) (h3 : ∀ q k, ¬ (142 ≤ q ∧ q ≤ 151 ∧ k = 1) → ¬ (228 ≤ q ∧ q < 228 + 8 ∧ k = 0) → ¬ (246 ≤ q ∧ q < 246 + 8 ∧ k < 20) → E3 q k = E2 q k) (hs : SNR (snI E3) P') : INVg (n + 6) s Q P' L T K d st sz (chW C kd wh a vl) m Pi di Ci E3 ∧ E3 125 0 = 0 ∧ E3 813 0 = v := by
  have hWf := h.wf hn
  have hsa := h.1.sa
  obtain ⟨i1, i2, ⟨t1, t2, t3, t4⟩, f1, f2, f3, ⟨c1, c2, c3⟩, ⟨m1, m2, m3⟩, im⟩ := h
  obtain ⟨o1, o2, o3, o4, o5⟩ := hO
  -- the reference's cells ahead are as they were
  have hS : ∀ q, 98 ≤ q → q ≠ 813 → wr E1 813 0 v q = E q := fun q a b => (wr_row b).trans (hCX.1 q (by omega))
  have hr2 : ∀ q, q ≠ 633 + C.1 → q ≠ 125 → 98 ≤ q → q ≠ 813 → E2 q = E q := fun q a b c e => (o3 q a b).trans (hS q c e)
  have h125 : ∀ k, k ≠ 0 → k ≠ 46 → k ≠ 48 → E2 125 k = E 125 k := fun k a b c => (o4 k a b c).trans (by rw [hS 125 (by omega) (by omega)])
  have hlow : ∀ q, q < 125 → E3 q = E1 q := fun q hq => funext fun k => (h3 q k (by omega) (by omega) (by omega)).trans ((congrFun (o3 q (by omega) (by omega)) k).trans (wr_o (by omega)))
  have hhi : ∀ q, (98 ≤ q ∧ q < 125) ∨ (125 < q ∧ q < 142) ∨ (254 ≤ q ∧ q < 813) → q ≠ 633 + C.1 → E3 q = E q := fun q a b => funext fun k => (h3 q k (by omega) (by omega) (by omega)).trans (congrFun (hr2 q b (by omega) (by omega) (by omega)) k)
  have h5 : ∀ k, k ≠ 0 → k ≠ 46 → k ≠ 48 → E3 125 k = E 125 k := fun k a b c => (h3 125 k (by omega) (by omega) (by omega)).trans (h125 k a b c)
  have hRX : RXI E3 Q P' L T K d st := by
    refine i2.one hWf hfr (fun q k l1 l2 a b c => ?_) (fun k a => h5 k (by omega) (by omega) (by omega)) hs
    exact (h3 q k a b c).trans (congrFun (hr2 q (by omega) (by omega) (by omega) (by omega)) k)
  have hq : ∀ q, (2 ≤ q ∧ q ≤ 3) ∨ q = 1 → E3 q = E q := fun q a => (hlow q (by omega)).trans (hCX.1 q (by omega))
  have h46 : E3 125 46 = ((C.1 + 1 : Nat) : Int) := (h3 125 46 (by omega) (by omega) (by omega)).trans o2
  refine ⟨⟨hI.fr2 (fun q a => hlow q (by rcases hsa with e | e <;> omega)), hRX, ⟨t1, by rw [hq 1 (by omega)]; exact t2, (h5 1 (by omega) (by omega) (by omega)).trans t3, by rw [hhi 126 (by omega) (by omega), hq 2 (by omega)]; exact t4⟩, by rw [hq 1 (by omega), h5 3 (by omega) (by omega) (by omega)]; exact f1, by rw [hq 3 (by omega), hhi 127 (by omega) (by omega)]; exact f2, by omega, ⟨hC.fr (fun q a b => hlow q (by omega)), hW, ⟨h46, fun k hk => ?_⟩⟩, ⟨by rw [hlow 0 (by omega), h18]; exact m1, (h5 47 (by omega) (by omega) (by omega)).trans m2, m3⟩, fun i hi => ((im i hi).fr (fun q a => hhi q (by omega) (by omega))).of hfr⟩, (h3 125 0 (by omega) (by omega) (by omega)).trans o5, (h3 813 0 (by omega) (by omega) (by omega)).trans ((congrFun (o3 813 (by omega) (by omega)) 0).trans (wr_s _ _ _ _))⟩
  have hk' : k < C.1 + 1 := hk
  by_cases e : k = C.1
  · subst e
    have e1 : dnP (chW C kd wh a vl) P' ((chW C kd wh a vl).1 - C.1) = P := by
      rw [show (chW C kd wh a vl).1 - C.1 = 0 + 1 from by show C.1 + 1 - C.1 = 0 + 1; omega, dn_new hb 0 (Nat.zero_le _)]
      rfl
    rw [e1]
    have hsn : SNR (snI (wr E1 813 0 v)) P := SNR_sn (i2.1.fr (fun q hq => hS q (by omega) (by omega)) hWf.1) hWf.1
    exact hsn.fr hWf.1 (fun i hi => (h3 _ i (by omega) (by omega) (by omega)).trans (o1 i hi))
  · have e1 : dnP (chW C kd wh a vl) P' ((chW C kd wh a vl).1 - k) = dnP C P (C.1 - k) := by
      rw [show (chW C kd wh a vl).1 - k = (C.1 - k) + 1 from by show C.1 + 1 - k = _; omega, dn_new hb (C.1 - k) (by omega)]
    rw [e1, hhi (633 + k) (by omega) (by omega)]
    exact c3.2 k (by omega)
theorem SNR_H {p x : Nat} (h : RTS E P Q) (hP : WS P) (hp : p < sN P) : SNR (snI (wr E (142 + p) 1 (x : Int))) (setH P p x) := by
  have hN := hP.N
  have h8 := hP.B.N
  refine ⟨fun k hk => ?_, fun b hb => ⟨?_, fun k hk => ?_⟩⟩
  · have hk' : k < sN P := hk
    unfold snI
    rw [if_pos (by omega)]
    show _ = ((pt1 (sH P) p x k : Nat) : Int)
    by_cases c : k = p
    · rw [c, wr_s, pt1_s]
    · rw [wr_o (by omega), pt1_o c]; exact (h.2.1 k hk').2
  · have hb' : b < bN (sB P) := hb
    unfold snI
    rw [if_neg (by omega), if_pos (by omega), show (10 + 21 * b - 10) / 21 = b by omega, wr_o (by omega)]
    exact (h.2.2.2.2.2.2 b hb).1
  · have hb' : b < bN (sB P) := hb
    have hl := hP.B.L hb'
    have hk' : k < bL (sB P) b := hk
    unfold snI
    rw [if_neg (by omega), if_neg (by omega), show (10 + 21 * b + 1 + k - 10) / 21 = b by omega, show (10 + 21 * b + 1 + k - 10) % 21 - 1 = k by omega, wr_o (by omega)]
    exact (h.2.2.2.2.2.2 b hb).2.2.2 k hk
theorem SNR_X {p x : Nat} (h : RTS E P Q) (hP : WS P) (hp : p < bN (sB P)) : SNR (snI (wr E (228 + p) 0 (x : Int))) (setXP P p x) := by
  have hN := hP.N
  have h8 := hP.B.N
  refine ⟨fun k hk => ?_, fun b hb => ⟨?_, fun k hk => ?_⟩⟩
  · have hk' : k < sN P := hk
    unfold snI
    rw [if_pos (by omega), wr_o (by omega)]
    exact (h.2.1 k hk').2
  · have hb' : b < bN (sB P) := hb
    unfold snI
    rw [if_neg (by omega), if_pos (by omega), show (10 + 21 * b - 10) / 21 = b by omega]
    show _ = ((pt1 (bX (sB P)) p x b : Nat) : Int)
    by_cases c : b = p
    · rw [c, wr_s, pt1_s]
    · rw [wr_o (by omega), pt1_o c]; exact (h.2.2.2.2.2.2 b hb').1
  · have hb' : b < bN (sB P) := hb
    have hl := hP.B.L hb'
    have hk' : k < bL (sB P) b := hk
    unfold snI
    rw [if_neg (by omega), if_neg (by omega), show (10 + 21 * b + 1 + k - 10) / 21 = b by omega, show (10 + 21 * b + 1 + k - 10) % 21 - 1 = k by omega, wr_o (by omega)]
    exact (h.2.2.2.2.2.2 b hb').2.2.2 k hk'
theorem SNR_D {p a x : Nat} (h : RTS E P Q) (hP : WS P) (hp : p < bN (sB P)) : SNR (snI (wr E (246 + p) a (x : Int))) (setDP P p a x) := by
  have hN := hP.N
  have h8 := hP.B.N
  refine ⟨fun k hk => ?_, fun b hb => ⟨?_, fun k hk => ?_⟩⟩
  · have hk' : k < sN P := hk
    unfold snI
    rw [if_pos (by omega), wr_o (by omega)]
    exact (h.2.1 k hk').2
  · have hb' : b < bN (sB P) := hb
    unfold snI
    rw [if_neg (by omega), if_pos (by omega), show (10 + 21 * b - 10) / 21 = b by omega, wr_o (by omega)]
    exact (h.2.2.2.2.2.2 b hb').1
  · have hb' : b < bN (sB P) := hb
    have hl := hP.B.L hb'
    have hk' : k < bL (sB P) b := hk
    unfold snI
    rw [if_neg (by omega), if_neg (by omega), show (10 + 21 * b + 1 + k - 10) / 21 = b by omega, show (10 + 21 * b + 1 + k - 10) % 21 - 1 = k by omega]
    have q := (h.2.2.2.2.2.2 b hb').2.2.2 k hk'
    show _ = ((if b = p ∧ k = a then x else bD (sB P) b k : Nat) : Int)
    by_cases c : b = p ∧ k = a
    · rw [if_pos c, c.1, c.2, wr_s]
    · rw [if_neg c, wr_o (by omega)]; exact q
end
