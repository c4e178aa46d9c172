theorem rsz {E : Mm} {B : Nat → Int} {n : Nat} {t : TS} (h : RTp E B n t) : E 125 2 = (n : Int) := by
  obtain ⟨a, hA, h5, h6, hs⟩ := h
  exact hA.2.1
theorem rle {E : Mm} {B : Nat → Int} {n : Nat} {t : TS} (h : RTp E B n t) : n ≤ 600 := by
  obtain ⟨a, hA, h5, h6, hs⟩ := h
  exact hA.1.1
theorem RTp.go {E : Mm} {B : Nat → Int} {n : Nat} {t : TS} (h : RTp E B n t) : RTp E B n (goT B n t) := by
  obtain ⟨a, hA, h5, h6, hs⟩ := h
  refine ⟨a, hA, by rw [go_fk]; exact h5, by rw [go_fk]; exact h6, fun q => ?_⟩
  rw [go_fk] at q
  have e : (goT B n t).1 = sk B n t.1 := by unfold goT; rw [if_pos q]; rfl
  rw [e, sk_sk]
  exact hs q
theorem go_n {B : Nat → Int} {n : Nat} {t : TS} (h : t.2.2.1 = 0) (ht : sk B n t.1 ≤ n) : (goT B n t).1 ≤ n ∧ (goT B n t).2.2.1 = 0 := by
  refine ⟨?_, by rw [go_fk]; exact h⟩
  unfold goT
  rw [if_pos h]
  exact ht
theorem cpR_i {E : Mm} {a b w r p q j : Nat} (hq : q = b + 1 + p) (hp : p < r) (hj : j < w) : cpR E a b w r 0 q j = E (a + 1 + p) j := by
  unfold cpR
  rw [if_pos (Or.inl (by omega)), show q - b + a = a + 1 + p by omega]
/-- the numbers of a street's things, as the reference holds them -/
def rtT (P : SP) (Q : RX) (k : Nat) : Nat := if k = 0 then sW P else if k = 1 then sN P else if k = 2 then xNs Q else if k = 3 then sM P else if k = 4 then sCn P else if k = 5 then sLn P else if k = 6 then bN (sB P) else sDk P
section
variable {G : Mm} {T : Nat → Nat}
theorem st_p (h1 : T 1 ≤ 10) {p j : Nat} (hp : p < T 1) (hj : j < 2) : standsE G T (142 + p) j = G (131 + p) j := by
  unfold standsE
  simp (disch := omega) only [wr_o, cpR_o]
  rw [cpR_i (p := p) (by omega) hp hj, cp1_o (by omega)]
theorem st_s (h1 : T 1 ≤ 10) (h2 : T 2 ≤ 12) {p j : Nat} (hp : p < T 2) (hj : j < 3) : standsE G T (167 + p) j = G (154 + p) j := by
  unfold standsE
  simp (disch := omega) only [wr_o, cpR_o]
  rw [cpR_i (p := p) (by omega) hp hj, cpR_o (by omega), cp1_o (by omega)]
theorem st_m (h1 : T 1 ≤ 10) (h2 : T 2 ≤ 12) (h3 : T 3 ≤ 3) {p j : Nat} (hp : p < T 3) (hj : j < 3) : standsE G T (184 + p) j = G (180 + p) j := by
  unfold standsE
  simp (disch := omega) only [wr_o, cpR_o]
  rw [cpR_i (p := p) (by omega) hp hj]
  simp (disch := omega) only [cpR_o, cp1_o]
theorem st_c (h1 : T 1 ≤ 10) (h2 : T 2 ≤ 12) (h3 : T 3 ≤ 3) (h4 : T 4 ≤ 6) {p j : Nat} (hp : p < T 4) (hj : j < 2) : standsE G T (195 + p) j = G (188 + p) j := by
  unfold standsE
  simp (disch := omega) only [wr_o, cpR_o]
  rw [cpR_i (p := p) (by omega) hp hj]
  simp (disch := omega) only [cpR_o, cp1_o]
theorem st_l (h1 : T 1 ≤ 10) (h2 : T 2 ≤ 12) (h3 : T 3 ≤ 3) (h4 : T 4 ≤ 6) (h5 : T 5 ≤ 6) {p j : Nat} (hp : p < T 5) (hj : j < 2) : standsE G T (209 + p) j = G (202 + p) j := by
  unfold standsE
  simp (disch := omega) only [wr_o, cpR_o]
  rw [cpR_i (p := p) (by omega) hp hj]
  simp (disch := omega) only [cpR_o, cp1_o]
theorem st_b (h1 : T 1 ≤ 10) (h2 : T 2 ≤ 12) (h3 : T 3 ≤ 3) (h4 : T 4 ≤ 6) (h5 : T 5 ≤ 6) (h6 : T 6 ≤ 8) {p j : Nat} (hp : p < T 6) (hj : j < 3) : standsE G T (228 + p) j = G (219 + p) j := by
  unfold standsE
  simp (disch := omega) only [wr_o, cpR_o]
  rw [cpR_i (p := p) (by omega) hp hj]
  simp (disch := omega) only [cpR_o, cp1_o]
theorem st_o (h1 : T 1 ≤ 10) (h2 : T 2 ≤ 12) (h3 : T 3 ≤ 3) (h4 : T 4 ≤ 6) (h5 : T 5 ≤ 6) (h6 : T 6 ≤ 8) {p j : Nat} (hp : p < T 6) (hj : j < 20) : standsE G T (246 + p) j = G (237 + p) j := by
  unfold standsE
  simp (disch := omega) only [wr_o]
  rw [cpR_i (p := p) (by omega) hp hj]
  simp (disch := omega) only [cpR_o, cp1_o]
theorem st_t {j : Nat} (hj : j < 8) : standsE G T 129 j = G 128 j := by
  unfold standsE
  simp (disch := omega) only [wr_o, cpR_o]
  rw [cp1_s hj]
theorem st_q (h1 : T 1 ≤ 10) (h2 : T 2 ≤ 12) (h3 : T 3 ≤ 3) (h4 : T 4 ≤ 6) (h5 : T 5 ≤ 6) (h6 : T 6 ≤ 8) {q j : Nat} (hq : ¬ (q = 125 ∨ q = 129 ∨ (142 ≤ q ∧ q ≤ 151) ∨ (167 ≤ q ∧ q ≤ 178) ∨ (184 ≤ q ∧ q ≤ 186) ∨ (195 ≤ q ∧ q ≤ 200) ∨ (209 ≤ q ∧ q ≤ 214) ∨ (228 ≤ q ∧ q ≤ 235) ∨ (246 ≤ q ∧ q ≤ 253))) : standsE G T q j = G q j := by
  unfold standsE
  simp (disch := omega) only [wr_o, cpR_o, cp1_o]
theorem st_k {k : Nat} (hk : ¬ (k = 28 ∨ k = 30 ∨ (43 ≤ k ∧ k ≤ 47))) : standsE G T 125 k = G 125 k := by
  unfold standsE
  simp (disch := omega) only [wr_o, cpR_o, cp1_o]
theorem st_z : standsE G T 125 28 = 0 ∧ standsE G T 125 30 = G 125 30 + 1 ∧ standsE G T 125 43 = 0 ∧ standsE G T 125 44 = 0 ∧ standsE G T 125 45 = 0 ∧ standsE G T 125 46 = 0 ∧ standsE G T 125 47 = 0 := by
  unfold standsE
  refine ⟨?_, ?_, ?_, ?_, ?_, ?_, ?_⟩ <;> simp (disch := omega) only [wr_o, wr_s, cpR_o, cp1_o]
end
/-- what stands is what was read -/
theorem st_RTS {G : Mm} {P : SP} {Q : RX} (hP : WS P) (hD : RTD G P Q) (hx : xNs Q ≤ 12) : RTS (standsE G (rtT P Q)) P Q := by
  obtain ⟨d1, d2, d3, d4, d5, d6, d7⟩ := hD
  have h1 : rtT P Q 1 ≤ 10 := hP.N
  have h2 : rtT P Q 2 ≤ 12 := hx
  have h3 : rtT P Q 3 ≤ 3 := hP.M
  have h4 : rtT P Q 4 ≤ 6 := hP.Cn
  have h5 : rtT P Q 5 ≤ 6 := hP.Ln
  have h6 : rtT P Q 6 ≤ 8 := hP.B.N
  refine ⟨?_, fun p hp => ?_, ⟨hx, fun k hk => ?_, d3.2.1⟩, fun m hm => ?_, ⟨fun k hk => ?_, d5.2⟩, ⟨fun k hk => ?_, d6.2⟩, fun b hb => ?_⟩
  · unfold RTo
    simp only [st_t (G := G) (T := rtT P Q) (show 0 < 8 by decide), st_t (G := G) (T := rtT P Q) (show 1 < 8 by decide), st_t (G := G) (T := rtT P Q) (show 2 < 8 by decide), st_t (G := G) (T := rtT P Q) (show 3 < 8 by decide), st_t (G := G) (T := rtT P Q) (show 4 < 8 by decide), st_t (G := G) (T := rtT P Q) (show 5 < 8 by decide), st_t (G := G) (T := rtT P Q) (show 6 < 8 by decide), st_t (G := G) (T := rtT P Q) (show 7 < 8 by decide)]
    exact d1
  · rw [st_p h1 (show p < rtT P Q 1 from hp) (by decide), st_p h1 (show p < rtT P Q 1 from hp) (by decide)]; exact d2 p hp
  · rw [st_s h1 h2 (show k < rtT P Q 2 from hk) (by decide), st_s h1 h2 (show k < rtT P Q 2 from hk) (by decide), st_s h1 h2 (show k < rtT P Q 2 from hk) (by decide)]; exact d3.1 k hk
  · rw [st_m h1 h2 h3 (show m < rtT P Q 3 from hm) (by decide), st_m h1 h2 h3 (show m < rtT P Q 3 from hm) (by decide), st_m h1 h2 h3 (show m < rtT P Q 3 from hm) (by decide)]; exact d4 m hm
  · rw [st_c h1 h2 h3 h4 (show k < rtT P Q 4 from hk) (by decide), st_c h1 h2 h3 h4 (show k < rtT P Q 4 from hk) (by decide)]; exact d5.1 k hk
  · rw [st_l h1 h2 h3 h4 h5 (show k < rtT P Q 5 from hk) (by decide), st_l h1 h2 h3 h4 h5 (show k < rtT P Q 5 from hk) (by decide)]; exact d6.1 k hk
  · have hb' : b < rtT P Q 6 := hb
    rw [st_b h1 h2 h3 h4 h5 h6 hb' (by decide), st_b h1 h2 h3 h4 h5 h6 hb' (by decide), st_b h1 h2 h3 h4 h5 h6 hb' (by decide)]
    refine ⟨(d7 b hb).1, (d7 b hb).2.1, (d7 b hb).2.2.1, fun p hp => ?_⟩
    have := hP.B.L hb
    rw [st_o h1 h2 h3 h4 h5 h6 hb' (by omega)]
    exact (d7 b hb).2.2.2 p hp
/-- told as before -/
theorem RXI.fr2 {E E1 : Mm} {Q : RX} {P : SP} {L : LW} {T K : LN} {d st : Nat} (h : RXI E Q P L T K d st) (hW : WF P L T K d st) (hf : ∀ q, q = 129 ∨ (142 ≤ q ∧ q ≤ 151) ∨ (167 ≤ q ∧ q ≤ 178) ∨ (184 ≤ q ∧ q ≤ 186) ∨ (195 ≤ q ∧ q ≤ 200) ∨ (209 ≤ q ∧ q ≤ 214) ∨ (228 ≤ q ∧ q ≤ 235) ∨ (246 ≤ q ∧ q ≤ 253) ∨ (255 ≤ q ∧ q ≤ 404) ∨ q = 578 ∨ q = 579 ∨ (581 ≤ q ∧ q ≤ 596) ∨ (615 ≤ q ∧ q ≤ 622) → E1 q = E q) (hs : ∀ k, k = 28 ∨ k = 30 ∨ k = 43 ∨ k = 44 ∨ k = 45 → E1 125 k = E 125 k) : RXI E1 Q P L T K d st := by
  obtain ⟨h1, h2, h3, h4, h5, h6⟩ := h
  have hL := hW.2.2.1.2.1
  have hT := hW.2.2.2.1.1
  have hKb := hW.2.2.2.2.1.1
  refine ⟨h1.fr (fun q hq => hf q (by omega)) hW.1, h2.fr hL (hs 28 (by omega)) (fun q a b => hf q (by omega)), h3.fr (hs 30 (by omega)) (hf 578 (by omega)) (hf 579 (by omega)), ⟨(hs 43 (by omega)).trans h4.1, fun i hi => ?_⟩, ⟨(hs 44 (by omega)).trans h5.1, fun i hi => ?_⟩, (hs 45 (by omega)).trans h6⟩
  · rw [hf (581 + i) (by omega)]; exact h4.2 i hi
  · rw [hf (615 + i) (by omega)]; exact h5.2 i hi
/-- the tape as the reference holds it -/
def TAPM (E : Mm) (s : Nat) : Prop := s ≤ 600 ∧ True ∧ E 125 1 = (s : Int) ∧ ∀ k, k < s → (0 ≤ E 126 k ∧ E 126 k < 256) ∧ True
/-- what a text leaves of the reference's other cells: the tape is empty, the fault's place is so -/
def RTXO (E E1 : Mm) (t : TS) : Prop := E1 125 0 = 0 ∧ E1 125 1 = 0 ∧ E1 125 3 = t.2.2.2 ∧ ∀ q, q < 125 ∨ q = 126 ∨ q = 127 ∨ (632 ≤ q ∧ q ≤ 656) ∨ q = 813 → E1 q = E q
def Q00 : RX := ((0, fun _ => 0), (fun _ => 0, fun _ => 0), (fun _ => 0, fun _ => 0))
theorem RTD_00 (F : Mm) : RTD (tellsN F) P00 Q00 := by
  refine ⟨?_, fun p hp => absurd hp (Nat.not_lt_zero p), ⟨fun k hk => absurd hk (Nat.not_lt_zero k), fun t _ hn => absurd rfl hn, fun i j hi => absurd hi (Nat.not_lt_zero i)⟩, fun m hm => absurd hm (Nat.not_lt_zero m), ⟨fun k hk => absurd hk (Nat.not_lt_zero k), fun _ _ => rfl⟩, ⟨fun k hk => absurd hk (Nat.not_lt_zero k), fun _ _ => rfl⟩, fun b hb => absurd hb (Nat.not_lt_zero b)⟩
  unfold tellsN
  refine ⟨?_, ?_, ?_, ?_, ?_, ?_, ?_, ?_⟩ <;> first | (simp (disch := omega) only [wr_o, wr_s, fil_s]; rfl) | (simp (disch := omega) only [wr_o, wr_s]; rfl)
/-- what the reading of a text may touch: the drafts, the tape's slots -/
def RFx (E E1 : Mm) : Prop := (∀ q, ¬ (q = 125 ∨ q = 128 ∨ (131 ≤ q ∧ q ≤ 140) ∨ (154 ≤ q ∧ q ≤ 165) ∨ (180 ≤ q ∧ q ≤ 182) ∨ (188 ≤ q ∧ q ≤ 193) ∨ (202 ≤ q ∧ q ≤ 207) ∨ (219 ≤ q ∧ q ≤ 226) ∨ (237 ≤ q ∧ q ≤ 244)) → E1 q = E q) ∧ ∀ k, ¬ (k ≤ 8 ∨ k = 27) → E1 125 k = E 125 k
theorem RFx.r {E E1 E2 : Mm} (h : RFx E E1) (h2 : RFr E1 E2) : RFx E E2 := ⟨fun q hq => (h2.1 q hq).trans (h.1 q hq), fun k hk => (h2.2 k (by omega)).trans (h.2 k hk)⟩
theorem dX12_street_0 : decode cX12_street 0 = .ok (.aload_n 0, 1) := by decide +kernel
theorem dX12_street_1 : decode cX12_street 1 = .ok (.iconst 0, 1) := by decide +kernel
theorem dX12_street_2 : decode cX12_street 2 = .ok (.putfield 152, 3) := by decide +kernel
theorem dX12_street_5 : decode cX12_street 5 = .ok (.aload_n 0, 1) := by decide +kernel
theorem dX12_street_6 : decode cX12_street 6 = .ok (.iload_n 1, 1) := by decide +kernel
theorem dX12_street_7 : decode cX12_street 7 = .ok (.iconst 0, 1) := by decide +kernel
theorem dX12_street_8 : decode cX12_street 8 = .ok (.aload_n 0, 1) := by decide +kernel
theorem dX12_street_9 : decode cX12_street 9 = .ok (.getfield 155, 3) := by decide +kernel
theorem dX12_street_12 : decode cX12_street 12 = .ok (.invokestatic 186, 3) := by decide +kernel
theorem dX12_street_15 : decode cX12_street 15 = .ok (.ifCond .ne 7, 3) := by decide +kernel
theorem dX12_street_18 : decode cX12_street 18 = .ok (.iconst 1, 1) := by decide +kernel
theorem dX12_street_19 : decode cX12_street 19 = .ok (.goto 4, 3) := by decide +kernel
theorem dX12_street_22 : decode cX12_street 22 = .ok (.iconst 0, 1) := by decide +kernel
theorem dX12_street_23 : decode cX12_street 23 = .ok (.iconst 1, 1) := by decide +kernel
theorem dX12_street_24 : decode cX12_street 24 = .ok (.iconst 2, 1) := by decide +kernel
theorem dX12_street_25 : decode cX12_street 25 = .ok (.invokevirtual 244, 3) := by decide +kernel
theorem dX12_street_28 : decode cX12_street 28 = .ok (.ifCond .eq 5, 3) := by decide +kernel
theorem dX12_street_31 : decode cX12_street 31 = .ok (.iconst 0, 1) := by decide +kernel
theorem dX12_street_32 : decode cX12_street 32 = .ok (.ireturn, 1) := by decide +kernel
theorem dX12_street_33 : decode cX12_street 33 = .ok (.aload_n 0, 1) := by decide +kernel
theorem dX12_street_34 : decode cX12_street 34 = .ok (.iload_n 1, 1) := by decide +kernel
theorem dX12_street_35 : decode cX12_street 35 = .ok (.invokevirtual 248, 3) := by decide +kernel
theorem dX12_street_38 : decode cX12_street 38 = .ok (.aload_n 0, 1) := by decide +kernel
theorem dX12_street_39 : decode cX12_street 39 = .ok (.iconst 0, 1) := by decide +kernel
theorem dX12_street_40 : decode cX12_street 40 = .ok (.putfield 214, 3) := by decide +kernel
theorem dX12_street_43 : decode cX12_street 43 = .ok (.aload_n 0, 1) := by decide +kernel
theorem dX12_street_44 : decode cX12_street 44 = .ok (.invokevirtual 146, 3) := by decide +kernel
theorem dX12_street_47 : decode cX12_street 47 = .ok (.aload_n 0, 1) := by decide +kernel
theorem dX12_street_48 : decode cX12_street 48 = .ok (.getfield 168, 3) := by decide +kernel
theorem dX12_street_51 : decode cX12_street 51 = .ok (.ifCond .ne 25, 3) := by decide +kernel
theorem dX12_street_54 : decode cX12_street 54 = .ok (.aload_n 0, 1) := by decide +kernel
theorem dX12_street_55 : decode cX12_street 55 = .ok (.getfield 161, 3) := by decide +kernel
theorem dX12_street_58 : decode cX12_street 58 = .ok (.aload_n 0, 1) := by decide +kernel
theorem dX12_street_59 : decode cX12_street 59 = .ok (.getfield 158, 3) := by decide +kernel
theorem dX12_street_62 : decode cX12_street 62 = .ok (.if_icmp .ge 14, 3) := by decide +kernel
theorem dX12_street_65 : decode cX12_street 65 = .ok (.aload_n 0, 1) := by decide +kernel
theorem dX12_street_66 : decode cX12_street 66 = .ok (.invokevirtual 251, 3) := by decide +kernel
theorem dX12_street_69 : decode cX12_street 69 = .ok (.aload_n 0, 1) := by decide +kernel
theorem dX12_street_70 : decode cX12_street 70 = .ok (.invokevirtual 174, 3) := by decide +kernel
theorem dX12_street_73 : decode cX12_street 73 = .ok (.goto (-26), 3) := by decide +kernel
theorem dX12_street_76 : decode cX12_street 76 = .ok (.aload_n 0, 1) := by decide +kernel
theorem dX12_street_77 : decode cX12_street 77 = .ok (.aload_n 0, 1) := by decide +kernel
theorem dX12_street_78 : decode cX12_street 78 = .ok (.getfield 171, 3) := by decide +kernel
theorem dX12_street_81 : decode cX12_street 81 = .ok (.putfield 9, 3) := by decide +kernel
theorem dX12_street_84 : decode cX12_street 84 = .ok (.aload_n 0, 1) := by decide +kernel
theorem dX12_street_85 : decode cX12_street 85 = .ok (.getfield 168, 3) := by decide +kernel
theorem dX12_street_88 : decode cX12_street 88 = .ok (.ifCond .eq 11, 3) := by decide +kernel
theorem dX12_street_91 : decode cX12_street 91 = .ok (.aload_n 0, 1) := by decide +kernel
theorem dX12_street_92 : decode cX12_street 92 = .ok (.getfield 168, 3) := by decide +kernel
theorem dX12_street_95 : decode cX12_street 95 = .ok (.bipush 10, 2) := by decide +kernel
theorem dX12_street_97 : decode cX12_street 97 = .ok (.isub, 1) := by decide +kernel
theorem dX12_street_98 : decode cX12_street 98 = .ok (.ireturn, 1) := by decide +kernel
theorem dX12_street_99 : decode cX12_street 99 = .ok (.aload_n 0, 1) := by decide +kernel
theorem dX12_street_100 : decode cX12_street 100 = .ok (.invokevirtual 149, 3) := by decide +kernel
theorem dX12_street_103 : decode cX12_street 103 = .ok (.aload_n 0, 1) := by decide +kernel
theorem dX12_street_104 : decode cX12_street 104 = .ok (.getfield 23, 3) := by decide +kernel
theorem dX12_street_107 : decode cX12_street 107 = .ok (.bipush 6, 2) := by decide +kernel
theorem dX12_street_109 : decode cX12_street 109 = .ok (.iaload, 1) := by decide +kernel
theorem dX12_street_110 : decode cX12_street 110 = .ok (.ireturn, 1) := by decide +kernel
theorem ct_X12_street {g : Gw} (hG : GF g) {z : Bool} (E : Mm) (Q : RX) (P : SP) (L : LW) (T K : LN) (d st : Nat) (hWf : WF P L T K d st) (hI_E : RXI E Q P L T K d st) (x0 : Int) (sz : Nat) (hTp : TAPM E sz) : CT g yX12_street cX12_street 2 (some .int) 6 133 0 0 K2 z [mR 125, mI x0] (ov E) K2 z (fun r' D' => ((0 ≤ x0 ∧ x0 ≤ (sz : Int)) ∧ ((¬ (rdS (E 126) x0.toNat 61).1.2.2.1 = 0 ∧ r' = some (mI ((rdS (E 126) x0.toNat 61).1.2.2.1 - 10)) ∧ ∃ E1, D' = ov E1 ∧ RXI E1 Q P L T K d st ∧ E1 125 46 = E 125 46 ∧ E1 125 47 = E 125 47 ∧ RTXO E E1 (rdS (E 126) x0.toNat 61).1) ∨ ((rdS (E 126) x0.toNat 61).1.2.2.1 = 0 ∧ r' = some (mI (bN (sB (rdS (E 126) x0.toNat 61).2.1) : Nat)) ∧ ∃ E1 Q1, D' = ov E1 ∧ RXI E1 Q1 (rdS (E 126) x0.toNat 61).2.1 plL ln00 ln00 0 (st + 1) ∧ E1 125 46 = 0 ∧ E1 125 47 = 0 ∧ RTXO E E1 (rdS (E 126) x0.toNat 61).1))) ∨ (¬ (0 ≤ x0 ∧ x0 ≤ (sz : Int)) ∧ r' = some (mI 0) ∧ D' = ov (badR E 1 2))) := by
  refine CT.mk hG (by decide +kernel) (Nat.le_of_ble_eq_true rfl) (fun κ X Rt _ ok => ?_)
  have hP := hWf.1
  have hN8 := hP.B.N
  have hW40 := hP.W
  have hN11 := hP.N
  have hwN : gN (gDay P L d) ≤ 11 := Nat.le_trans hP.N (by decide)
  have hgw : gW (gDay P L d) = sW P := rfl
  have hDI24 := dyP_DI (G := (gDay P L d)) hP.B hWf.2.2.2.1 (Nat.le_refl 24)
  refine at_aload_n 1 X rfl rfl dX12_street_0 rfl ?_
  refine at_iconst 2 X (by decide) dX12_street_1 rfl ?_
  refine m_putI 5 X f_X12_152 fw_12_0 k_125 rn_125_0 dX12_street_2 rfl ?_
  have hO_E0 := RXO.z hWf hI_E
  generalize hE0 : wr E 125 0 0 = E0 at hO_E0 ⊢
  have hR_E0 := hO_E0.1.1
  have h1_E0 : E0 125 1 = (sz : Int) := (hO_E0.2.1.2 1 (by omega)).trans hTp.2.2.1
  refine at_aload_n 6 X rfl rfl dX12_street_5 rfl ?_
  refine at_iload_n 7 X rfl rfl dX12_street_6 rfl ?_
  refine at_iconst 8 X (by decide) dX12_street_7 rfl ?_
  refine at_aload_n 9 X rfl rfl dX12_street_8 rfl ?_
  refine m_getIV 12 X ((sz : Nat) : Int) h1_E0 f_X12_155 k_125 rn_125_1 dX12_street_9 rfl ?_
  refine at_callS 15 X (ct_X12_in hG _ _ _) mo_X12_in w_1957 so_X12_in rfl rfl (crm Rt (by decide)) (Nat.le_of_ble_eq_true rfl) dX12_street_12 rfl ?_
  rintro _ _ ⟨rfl, rfl⟩
  refine at_if_ne 18 22 X dX12_street_15 rfl (by decide) (fun h15 => ?_) (fun h15 => ?_)
  · have h15 : (0 ≤ x0 ∧ x0 ≤ ((sz : Nat) : Int)) := ite_yes.mp h15
    refine at_iconst 23 X (by decide) dX12_street_22 rfl ?_
    refine at_iconst 24 X (by decide) dX12_street_23 rfl ?_
    refine at_iconst 25 X (by decide) dX12_street_24 rfl ?_
    refine at_callV 28 X _ 12 (ct_bad0 hG E0 1 2 (by decide) hO_E0.2.2.1) clX12 rfl k_125 mo_X12_bad w_1960 vo_X12_bad.1 vo_X12_bad.2 rfl rfl (crm Rt (by decide)) (Nat.le_of_ble_eq_true rfl) dX12_street_25 rfl ?_
    rintro _ _ ⟨rfl, rfl⟩
    have hc0 : 0 ≤ x0 ∧ x0 ≤ (sz : Int) := by omega
    refine at_if_eq 31 33 X dX12_street_28 rfl (by decide) (fun h28 => ?_) (fun h28 => ?_)
    · obtain ⟨n, rfl⟩ : ∃ n : Nat, x0 = (n : Int) := ⟨x0.toNat, by omega⟩
      have hnz : n ≤ sz := by omega
      have hq_E0 : ∀ q, q ≠ 125 → E0 q = E q := fun q h => by rw [← hE0]; exact wr_row h
      have hs_E0 : ∀ k, k ≠ 0 → E0 125 k = E 125 k := fun k h => by rw [← hE0]; exact wr_o (by omega)
      have hB126 : E0 126 = E 126 := hq_E0 126 (by omega)
      refine at_aload_n 34 X rfl rfl dX12_street_33 rfl ?_
      refine at_iload_n 35 X rfl rfl dX12_street_34 rfl ?_
      refine at_callV 38 X _ 12 (ct_X12_starts hG E0 n (by have := hTp.1; omega) (fun k hk => by rw [hB126]; exact (hTp.2.2.2 k (by omega)).1)) clX12 rfl k_125 mo_X12_starts w_1964 vo_X12_starts.1 vo_X12_starts.2 rfl rfl (crm Rt (by decide)) (Nat.le_of_ble_eq_true rfl) dX12_street_35 rfl ?_
      rintro _ _ ⟨rfl, F1, rfl, hP_F1, h1_F1, h7_F1, h8_F1, hq_F1, hs_F1, hat_F1⟩
      rw [hB126] at hP_F1 hat_F1
      obtain ⟨B, hB⟩ : ∃ B, B = E 126 := ⟨_, rfl⟩
      rw [← hB] at hP_F1 hat_F1
      refine at_aload_n 39 X rfl rfl dX12_street_38 rfl ?_
      refine at_iconst 40 X (by decide) dX12_street_39 rfl ?_
      refine m_putI 43 X f_X12_214 fw_12_27 k_125 rn_125_27 dX12_street_40 rfl ?_
      refine at_aload_n 44 X rfl rfl dX12_street_43 rfl ?_
      refine at_callV 47 X _ 12 (by have h := ct_X12_tellsNothing (z := z) hG (i := 814) (by decide) (wr F1 125 27 0); rw [KT_all] at h; exact h) clX12 rfl k_125 mo_X12_tellsNothing w_1734 vo_X12_tellsNothing.1 vo_X12_tellsNothing.2 rfl rfl (crm Rt (by decide)) (Nat.le_of_ble_eq_true rfl) dX12_street_44 rfl ?_
      rintro _ _ ⟨rfl, rfl⟩
      have hD0 := RTD_00 (wr F1 125 27 0)
      have hP0 : RTp (tellsN (wr F1 125 27 0)) B n (0, 0, 0, -1) := hP_F1.w (fun k hk => by unfold tellsN; simp (disch := omega) only [wr_o]; rw [fil_row (by omega)]; simp (disch := omega) only [wr_o]) (by unfold tellsN; simp (disch := omega) only [wr_row, fil_row])
      have hx0 : RFx E (tellsN (wr F1 125 27 0)) := ⟨fun q hq => by unfold tellsN; simp (disch := omega) only [wr_row, fil_row]; rw [hq_F1 q (by omega)]; exact hq_E0 q (by omega), fun j hj => by unfold tellsN; simp (disch := omega) only [wr_o]; rw [fil_row (by omega)]; simp (disch := omega) only [wr_o]; rw [hs_F1 j (by omega)]; exact hs_E0 j (by omega)⟩
      have hz0 : tellsN (wr F1 125 27 0) 125 27 = 0 ∧ tellsN (wr F1 125 27 0) 125 7 = 0 ∧ tellsN (wr F1 125 27 0) 125 0 = 0 ∧ tellsN (wr F1 125 27 0) 125 1 = 0 ∧ tellsN (wr F1 125 27 0) 125 4 = ((sk B n 0 : Nat) : Int) := by
        unfold tellsN
        refine ⟨?_, ?_, ?_, ?_, ?_⟩ <;> (simp (disch := omega) only [wr_o]; rw [fil_row (by omega)]; simp (disch := omega) only [wr_o, wr_s])
        · exact h7_F1
        · rw [hs_F1 0 (by omega)]; exact hO_E0.2.2.1
        · exact h1_F1
        · exact hat_F1
      generalize tellsN (wr F1 125 27 0) = G0 at hD0 hP0 hx0 hz0 ⊢
      have J47 : ∀ (f47 : Nat) (G : Mm) (k : Nat), 62 - k < f47 → (k ≤ 61) → (RTp G B n (rdS B n k).1) → ((rdS B n k).1.2.2.1 = 0 → G 125 27 = (((rdS B n k).2.2 : Nat) : Int) ∧ G 125 7 = ((k : Nat) : Int) ∧ G 125 4 = ((sk B n (rdS B n k).1.1 : Nat) : Int) ∧ ∃ Q2, RTD G (rdS B n k).2.1 Q2 ∧ xNs Q2 ≤ (rdS B n k).2.2) → (RFx E G) → (G 125 0 = 0 ∧ G 125 1 = 0) → AT g κ K2 z 0 0 47 [(0, mR 125)] [] (ov G) := by
        intro f47
        induction f47 with
        | zero => intro G k hf47; omega
        | succ f47 ih47 =>
        intro G k hf47 hk hP_G hD_G hr_G hz_G
        refine at_aload_n 48 X rfl rfl dX12_street_47 rfl ?_
        refine m_getIV 51 X ((rdS B n k).1.2.2.1) (rfk hP_G) f_X12_168 k_125 rn_125_5 dX12_street_48 rfl ?_
        refine at_if_ne 54 76 X dX12_street_51 rfl (by decide) (fun h51 => ?_) (fun h51 => ?_)
        · have hend : rdS B n k = rdS B n 61 := by have := rd_stay (B := B) (n := n) (k := k) (fun q => h51 q.1) (61 - k); rw [show k + (61 - k) = 61 by omega] at this; exact this.symm
          refine at_aload_n 77 X rfl rfl dX12_street_76 rfl ?_
          refine at_aload_n 78 X rfl rfl dX12_street_77 rfl ?_
          refine m_getIV 81 X ((rdS B n k).1.2.2.2) (rfp hP_G) f_X12_171 k_125 rn_125_6 dX12_street_78 rfl ?_
          refine m_putI 84 X f_X12_9 fw_12_3 k_125 rn_125_3 dX12_street_81 rfl ?_
          refine at_aload_n 85 X rfl rfl dX12_street_84 rfl ?_
          refine m_getIV 88 X ((rdS B n k).1.2.2.1) ((wr_o (by omega)).trans (rfk hP_G)) f_X12_168 k_125 rn_125_5 dX12_street_85 rfl ?_
          refine at_if_eq 91 99 X dX12_street_88 rfl (by decide) (fun h88 => ?_) (fun h88 => ?_)
          · have h88 : (rdS B n k).1.2.2.1 = 0 := by first | exact h88 | exact Decidable.byContradiction h88
            refine at_aload_n 100 X rfl rfl dX12_street_99 rfl ?_
            obtain ⟨q27, q7, q4, Q2, hD2, hx2⟩ := hD_G h88
            have hws := rd_WS B n k h88
            have hGS12 : (rdS B n k).2.2 ≤ 12 := by
              rcases rd_ok B n k h88 with q | q
              · exact q.2.2.1
              · rw [q.2.2]; exact Nat.zero_le _
            have hP2 := hws.1
            have hsd := hWf.2.2.2.2.2.2
            have h30 : (wr G 125 3 ((rdS B n k).1.2.2.2)) 125 30 = (st : Int) := by rw [wr_o (by omega), hr_G.2 30 (by omega)]; exact hI_E.2.2.1.1
            have hD2 : RTD (wr G 125 3 ((rdS B n k).1.2.2.2)) (rdS B n k).2.1 Q2 := hD2.fr (fun q hq => wr_row hq)
            refine at_callV 103 X _ 12 (by have h := ct_X12_stands (z := z) hG (i := 814) (by decide) (wr G 125 3 ((rdS B n k).1.2.2.2)) (rtT (rdS B n k).2.1 Q2) (fun k hk => by rcases (show k = 0 ∨ k = 1 ∨ k = 2 ∨ k = 3 ∨ k = 4 ∨ k = 5 ∨ k = 6 ∨ k = 7 by omega) with rfl | rfl | rfl | rfl | rfl | rfl | rfl | rfl; exact hD2.1.1; exact hD2.1.2.1; exact hD2.1.2.2.1; exact hD2.1.2.2.2.1; exact hD2.1.2.2.2.2.1; exact hD2.1.2.2.2.2.2.1; exact hD2.1.2.2.2.2.2.2.1; exact hD2.1.2.2.2.2.2.2.2) hP2.N (show xNs Q2 ≤ 12 by omega) hP2.M hP2.Cn hP2.Ln hP2.B.N (by rw [h30]; omega); rw [KT_all] at h; exact h) clX12 rfl k_125 mo_X12_stands w_1738 vo_X12_stands.1 vo_X12_stands.2 rfl rfl (crm Rt (by decide)) (Nat.le_of_ble_eq_true rfl) dX12_street_100 rfl ?_
            rintro _ _ ⟨rfl, rfl⟩
            have hRTS := st_RTS hP2 hD2 (by omega)
            have h129 : standsE (wr G 125 3 ((rdS B n k).1.2.2.2)) (rtT (rdS B n k).2.1 Q2) 129 6 = (bN (sB (rdS B n k).2.1) : Int) := (st_t (by decide)).trans hD2.1.2.2.2.2.2.2.1
            have hqs : ∀ q, ¬ (q = 125 ∨ q = 129 ∨ (142 ≤ q ∧ q ≤ 151) ∨ (167 ≤ q ∧ q ≤ 178) ∨ (184 ≤ q ∧ q ≤ 186) ∨ (195 ≤ q ∧ q ≤ 200) ∨ (209 ≤ q ∧ q ≤ 214) ∨ (228 ≤ q ∧ q ≤ 235) ∨ (246 ≤ q ∧ q ≤ 253)) → standsE (wr G 125 3 ((rdS B n k).1.2.2.2)) (rtT (rdS B n k).2.1 Q2) q = G q := fun q hq => funext fun j => (st_q hP2.N (show xNs Q2 ≤ 12 by omega) hP2.M hP2.Cn hP2.Ln hP2.B.N hq).trans (wr_o (by omega))
            have hks : ∀ j, ¬ (j = 28 ∨ j = 30 ∨ (43 ≤ j ∧ j ≤ 47)) → standsE (wr G 125 3 ((rdS B n k).1.2.2.2)) (rtT (rdS B n k).2.1 Q2) 125 j = (wr G 125 3 ((rdS B n k).1.2.2.2)) 125 j := fun j hj => st_k hj
            obtain ⟨z28, z30, z43, z44, z45, z46, z47⟩ := st_z (G := wr G 125 3 ((rdS B n k).1.2.2.2)) (T := rtT (rdS B n k).2.1 Q2)
            generalize standsE (wr G 125 3 ((rdS B n k).1.2.2.2)) (rtT (rdS B n k).2.1 Q2) = H at hRTS h129 hqs hks z28 z30 z43 z44 z45 z46 z47 ⊢
            refine at_aload_n 104 X rfl rfl dX12_street_103 rfl ?_
            refine m_getR 107 X f_X12_23 k_125 r_125_12 dX12_street_104 rfl ?_
            refine at_bipush 109 X (by decide) (by decide) dX12_street_107 rfl ?_
            refine m_ialoadV 110 X 6 (by omega) ((bN (sB (rdS B n k).2.1) : Nat) : Int) h129 k_129 e_129 (by omega) dX12_street_109 rfl ?_
            refine at_iret X Rt ?_ (Nat.le_refl _) (Nat.le_refl _) dX12_street_110
            refine Or.inl ⟨hc0, Or.inr ?_⟩
            rw [Int.toNat_natCast, ← hB, ← hend]
            refine ⟨h88, rfl, H, Q2, rfl, ⟨hRTS, Or.inl ⟨z28, rfl⟩, ⟨?_, fun s t h m k1 k2 k3 k4 => ?_⟩, ⟨z43, fun i hi => absurd hi (Nat.not_lt_zero i)⟩, ⟨z44, fun i hi => absurd hi (Nat.not_lt_zero i)⟩, z45⟩, z46, z47, by rw [hks 0 (by omega), wr_o (by omega)]; exact hz_G.1, by rw [hks 1 (by omega), wr_o (by omega)]; exact hz_G.2, by rw [hks 3 (by omega)]; exact wr_s _ _ _ _, fun q hq => (hqs q (by omega)).trans (hr_G.1 q (by omega))⟩
            · rw [z30, h30]; omega
            · rw [hqs 579 (by omega), hr_G.1 579 (by omega)]
              have := (hI_E.2.2.1.2 s t h m k1 k2 k3 k4).1
              exact ⟨by omega, fun q => by omega⟩
          · have h88 : ¬ (rdS B n k).1.2.2.1 = 0 := h88
            have hfk : 0 ≤ (rdS B n k).1.2.2.1 ∧ (rdS B n k).1.2.2.1 ≤ 4 := FK_rd B n k
            refine at_aload_n 92 X rfl rfl dX12_street_91 rfl ?_
            refine m_getIV 95 X ((rdS B n k).1.2.2.1) ((wr_o (by omega)).trans (rfk hP_G)) f_X12_168 k_125 rn_125_5 dX12_street_92 rfl ?_
            refine at_bipush 97 X (by decide) (by decide) dX12_street_95 rfl ?_
            refine at_isubV 98 X (((rdS B n k).1.2.2.1) - 10) (w32_v rfl (by omega) (by omega)) dX12_street_97 rfl ?_
            refine at_iret X Rt ?_ (Nat.le_refl _) (Nat.le_refl _) dX12_street_98
            refine Or.inl ⟨hc0, Or.inl ?_⟩
            rw [Int.toNat_natCast, ← hB, ← hend]
            exact ⟨h88, rfl, _, rfl, hI_E.fr2 hWf (fun q hq => by rw [wr_row (by omega)]; exact hr_G.1 q (by omega)) (fun k hk => by rw [wr_o (by omega)]; exact hr_G.2 k (by omega)), by rw [wr_o (by omega)]; exact hr_G.2 46 (by omega), by rw [wr_o (by omega)]; exact hr_G.2 47 (by omega), by rw [wr_o (by omega)]; exact hz_G.1, by rw [wr_o (by omega)]; exact hz_G.2, wr_s _ _ _ _, fun q hq => by rw [wr_row (by omega)]; exact hr_G.1 q (by omega)⟩
        · have h0 : (rdS B n k).1.2.2.1 = 0 := by first | exact h51 | exact Decidable.byContradiction h51
          refine at_aload_n 55 X rfl rfl dX12_street_54 rfl ?_
          refine m_getIV 58 X ((sk B n (rdS B n k).1.1 : Nat) : Int) (hD_G h0).2.2.1 f_X12_161 k_125 rn_125_4 dX12_street_55 rfl ?_
          refine at_aload_n 59 X rfl rfl dX12_street_58 rfl ?_
          refine m_getIV 62 X ((n : Nat) : Int) (rsz hP_G) f_X12_158 k_125 rn_125_2 dX12_street_59 rfl ?_
          refine at_icmp_ge 65 76 X dX12_street_62 rfl (by decide) (fun h62 => ?_) (fun h62 => ?_)
          · have hend : rdS B n k = rdS B n 61 := by have := rd_stay (B := B) (n := n) (k := k) (fun q => by have := q.2; omega) (61 - k); rw [show k + (61 - k) = 61 by omega] at this; exact this.symm
            refine at_aload_n 77 X rfl rfl dX12_street_76 rfl ?_
            refine at_aload_n 78 X rfl rfl dX12_street_77 rfl ?_
            refine m_getIV 81 X ((rdS B n k).1.2.2.2) (rfp hP_G) f_X12_171 k_125 rn_125_6 dX12_street_78 rfl ?_
            refine m_putI 84 X f_X12_9 fw_12_3 k_125 rn_125_3 dX12_street_81 rfl ?_
            refine at_aload_n 85 X rfl rfl dX12_street_84 rfl ?_
            refine m_getIV 88 X ((rdS B n k).1.2.2.1) ((wr_o (by omega)).trans (rfk hP_G)) f_X12_168 k_125 rn_125_5 dX12_street_85 rfl ?_
            refine at_if_eq 91 99 X dX12_street_88 rfl (by decide) (fun h88 => ?_) (fun h88 => ?_)
            · have h88 : (rdS B n k).1.2.2.1 = 0 := by first | exact h88 | exact Decidable.byContradiction h88
              refine at_aload_n 100 X rfl rfl dX12_street_99 rfl ?_
              obtain ⟨q27, q7, q4, Q2, hD2, hx2⟩ := hD_G h88
              have hws := rd_WS B n k h88
              have hGS12 : (rdS B n k).2.2 ≤ 12 := by
                rcases rd_ok B n k h88 with q | q
                · exact q.2.2.1
                · rw [q.2.2]; exact Nat.zero_le _
              have hP2 := hws.1
              have hsd := hWf.2.2.2.2.2.2
              have h30 : (wr G 125 3 ((rdS B n k).1.2.2.2)) 125 30 = (st : Int) := by rw [wr_o (by omega), hr_G.2 30 (by omega)]; exact hI_E.2.2.1.1
              have hD2 : RTD (wr G 125 3 ((rdS B n k).1.2.2.2)) (rdS B n k).2.1 Q2 := hD2.fr (fun q hq => wr_row hq)
              refine at_callV 103 X _ 12 (by have h := ct_X12_stands (z := z) hG (i := 814) (by decide) (wr G 125 3 ((rdS B n k).1.2.2.2)) (rtT (rdS B n k).2.1 Q2) (fun k hk => by rcases (show k = 0 ∨ k = 1 ∨ k = 2 ∨ k = 3 ∨ k = 4 ∨ k = 5 ∨ k = 6 ∨ k = 7 by omega) with rfl | rfl | rfl | rfl | rfl | rfl | rfl | rfl; exact hD2.1.1; exact hD2.1.2.1; exact hD2.1.2.2.1; exact hD2.1.2.2.2.1; exact hD2.1.2.2.2.2.1; exact hD2.1.2.2.2.2.2.1; exact hD2.1.2.2.2.2.2.2.1; exact hD2.1.2.2.2.2.2.2.2) hP2.N (show xNs Q2 ≤ 12 by omega) hP2.M hP2.Cn hP2.Ln hP2.B.N (by rw [h30]; omega); rw [KT_all] at h; exact h) clX12 rfl k_125 mo_X12_stands w_1738 vo_X12_stands.1 vo_X12_stands.2 rfl rfl (crm Rt (by decide)) (Nat.le_of_ble_eq_true rfl) dX12_street_100 rfl ?_
              rintro _ _ ⟨rfl, rfl⟩
              have hRTS := st_RTS hP2 hD2 (by omega)
              have h129 : standsE (wr G 125 3 ((rdS B n k).1.2.2.2)) (rtT (rdS B n k).2.1 Q2) 129 6 = (bN (sB (rdS B n k).2.1) : Int) := (st_t (by decide)).trans hD2.1.2.2.2.2.2.2.1
              have hqs : ∀ q, ¬ (q = 125 ∨ q = 129 ∨ (142 ≤ q ∧ q ≤ 151) ∨ (167 ≤ q ∧ q ≤ 178) ∨ (184 ≤ q ∧ q ≤ 186) ∨ (195 ≤ q ∧ q ≤ 200) ∨ (209 ≤ q ∧ q ≤ 214) ∨ (228 ≤ q ∧ q ≤ 235) ∨ (246 ≤ q ∧ q ≤ 253)) → standsE (wr G 125 3 ((rdS B n k).1.2.2.2)) (rtT (rdS B n k).2.1 Q2) q = G q := fun q hq => funext fun j => (st_q hP2.N (show xNs Q2 ≤ 12 by omega) hP2.M hP2.Cn hP2.Ln hP2.B.N hq).trans (wr_o (by omega))
              have hks : ∀ j, ¬ (j = 28 ∨ j = 30 ∨ (43 ≤ j ∧ j ≤ 47)) → standsE (wr G 125 3 ((rdS B n k).1.2.2.2)) (rtT (rdS B n k).2.1 Q2) 125 j = (wr G 125 3 ((rdS B n k).1.2.2.2)) 125 j := fun j hj => st_k hj
              obtain ⟨z28, z30, z43, z44, z45, z46, z47⟩ := st_z (G := wr G 125 3 ((rdS B n k).1.2.2.2)) (T := rtT (rdS B n k).2.1 Q2)
              generalize standsE (wr G 125 3 ((rdS B n k).1.2.2.2)) (rtT (rdS B n k).2.1 Q2) = H at hRTS h129 hqs hks z28 z30 z43 z44 z45 z46 z47 ⊢
              refine at_aload_n 104 X rfl rfl dX12_street_103 rfl ?_
              refine m_getR 107 X f_X12_23 k_125 r_125_12 dX12_street_104 rfl ?_
              refine at_bipush 109 X (by decide) (by decide) dX12_street_107 rfl ?_
              refine m_ialoadV 110 X 6 (by omega) ((bN (sB (rdS B n k).2.1) : Nat) : Int) h129 k_129 e_129 (by omega) dX12_street_109 rfl ?_
              refine at_iret X Rt ?_ (Nat.le_refl _) (Nat.le_refl _) dX12_street_110
              refine Or.inl ⟨hc0, Or.inr ?_⟩
              rw [Int.toNat_natCast, ← hB, ← hend]
              refine ⟨h88, rfl, H, Q2, rfl, ⟨hRTS, Or.inl ⟨z28, rfl⟩, ⟨?_, fun s t h m k1 k2 k3 k4 => ?_⟩, ⟨z43, fun i hi => absurd hi (Nat.not_lt_zero i)⟩, ⟨z44, fun i hi => absurd hi (Nat.not_lt_zero i)⟩, z45⟩, z46, z47, by rw [hks 0 (by omega), wr_o (by omega)]; exact hz_G.1, by rw [hks 1 (by omega), wr_o (by omega)]; exact hz_G.2, by rw [hks 3 (by omega)]; exact wr_s _ _ _ _, fun q hq => (hqs q (by omega)).trans (hr_G.1 q (by omega))⟩
              · rw [z30, h30]; omega
              · rw [hqs 579 (by omega), hr_G.1 579 (by omega)]
                have := (hI_E.2.2.1.2 s t h m k1 k2 k3 k4).1
                exact ⟨by omega, fun q => by omega⟩
            · have h88 : ¬ (rdS B n k).1.2.2.1 = 0 := h88
              have hfk : 0 ≤ (rdS B n k).1.2.2.1 ∧ (rdS B n k).1.2.2.1 ≤ 4 := FK_rd B n k
              refine at_aload_n 92 X rfl rfl dX12_street_91 rfl ?_
              refine m_getIV 95 X ((rdS B n k).1.2.2.1) ((wr_o (by omega)).trans (rfk hP_G)) f_X12_168 k_125 rn_125_5 dX12_street_92 rfl ?_
              refine at_bipush 97 X (by decide) (by decide) dX12_street_95 rfl ?_
              refine at_isubV 98 X (((rdS B n k).1.2.2.1) - 10) (w32_v rfl (by omega) (by omega)) dX12_street_97 rfl ?_
              refine at_iret X Rt ?_ (Nat.le_refl _) (Nat.le_refl _) dX12_street_98
              refine Or.inl ⟨hc0, Or.inl ?_⟩
              rw [Int.toNat_natCast, ← hB, ← hend]
              exact ⟨h88, rfl, _, rfl, hI_E.fr2 hWf (fun q hq => by rw [wr_row (by omega)]; exact hr_G.1 q (by omega)) (fun k hk => by rw [wr_o (by omega)]; exact hr_G.2 k (by omega)), by rw [wr_o (by omega)]; exact hr_G.2 46 (by omega), by rw [wr_o (by omega)]; exact hr_G.2 47 (by omega), by rw [wr_o (by omega)]; exact hz_G.1, by rw [wr_o (by omega)]; exact hz_G.2, wr_s _ _ _ _, fun q hq => by rw [wr_row (by omega)]; exact hr_G.1 q (by omega)⟩
          · have hlt : sk B n (rdS B n k).1.1 < n := by omega
            refine at_aload_n 66 X rfl rfl dX12_street_65 rfl ?_
            have hgo : goB B n (rdS B n k).1 := ⟨h0, hlt⟩
            obtain ⟨q27, q7, q4, Q2, hD2, hx2⟩ := hD_G h0
            have hGS : GS k (rdS B n k) := by
              rcases rd_ok B n k h0 with q | q
              · exact q
              · exact absurd hgo q.2.1
            have hk60 : k ≤ 60 := by
              by_cases c : k = 61
              · exact absurd hgo (rd_end B n k c)
              · omega
            have hgn := go_n (B := B) (n := n) h0 (Nat.le_of_lt hlt)
            have hPW := hGS.1
            have hBd : RBd (rdS B n k).2.1 Q2 := ⟨hPW.N, Nat.le_trans hx2 hGS.2.2.1, hPW.M, hPW.Cn, hPW.Ln, hPW.B.N⟩
            have hstep : rdS B n (k + 1) = clN B n k ((goT B n (rdS B n k).1), (rdS B n k).2) := if_pos hgo
            refine at_callV 69 X _ 12 (ct_X12_clause hG G B n (goT B n (rdS B n k).1) hgn.1 hP_G.go hgn.2 (rdS B n k).2.1 Q2 hPW hD2 hBd (rdS B n k).2.2 q27 hGS.2.2.1 hx2 k hk60 q7) clX12 rfl k_125 mo_X12_clause w_1976 vo_X12_clause.1 vo_X12_clause.2 rfl rfl (crm Rt (by decide)) (Nat.le_of_ble_eq_true rfl) dX12_street_66 rfl ?_
            rintro _ _ ⟨rfl, F2, rfl, hP_F2, hDo_F2, hr_F2⟩
            have hP_F2 : RTp F2 B n (rdS B n (k + 1)).1 := by rw [hstep]; exact hP_F2
            have hD_F2 : (rdS B n (k + 1)).1.2.2.1 = 0 → F2 125 27 = (((rdS B n (k + 1)).2.2 : Nat) : Int) ∧ F2 125 7 = ((k + 1 : Nat) : Int) ∧ ∃ Q3, RTD F2 (rdS B n (k + 1)).2.1 Q3 ∧ xNs Q3 ≤ (rdS B n (k + 1)).2.2 := by rw [hstep]; exact hDo_F2
            refine at_aload_n 70 X rfl rfl dX12_street_69 rfl ?_
            refine at_callV 73 X _ 12 (c12_bl hG F2 B n (rdS B n (k + 1)).1 hP_F2) clX12 rfl k_125 mo_X12_blanks w_1968 vo_X12_blanks.1 vo_X12_blanks.2 rfl rfl (crm Rt (by decide)) (Nat.le_of_ble_eq_true rfl) dX12_street_70 rfl ?_
            rintro _ _ ⟨rfl, F3, rfl, hP_F3, hf_F3, hat_F3⟩
            refine at_goto 47 X dX12_street_73 (by decide) ?_
            exact at_sub _ (by exact ⟨rfl, trivial⟩) (ih47 F3 (k + 1) (by clear hD_F2 hDo_F2 hD_G; omega) (by clear hD_F2 hDo_F2 hD_G; omega) hP_F3 (fun q => by obtain ⟨g1, g2, Q3, g3, g4⟩ := hD_F2 q; exact ⟨(hf_F3.2 27 (by omega)).trans g1, (hf_F3.2 7 (by omega)).trans g2, hat_F3 q, Q3, g3.fr (fun q hq => hf_F3.1 q hq), g4⟩) ((hr_G.r hr_F2).r hf_F3.fr) ⟨(hf_F3.2 0 (by omega)).trans ((hr_F2.2 0 (by omega)).trans hz_G.1), (hf_F3.2 1 (by omega)).trans ((hr_F2.2 1 (by omega)).trans hz_G.2)⟩)
      exact at_sub _ (by exact ⟨rfl, trivial⟩) (J47 _ G0 0 (Nat.lt_succ_self _) (by first | omega | assumption | rfl) hP0 (fun _ => ⟨hz0.1, hz0.2.1, hz0.2.2.2.2, Q00, hD0, Nat.le_refl _⟩) hx0 ⟨hz0.2.2.1, hz0.2.2.2.1⟩)
    · exact absurd h28 (by decide)
  · have h15 : ¬ (0 ≤ x0 ∧ x0 ≤ ((sz : Nat) : Int)) := ite_no.mp h15
    refine at_iconst 19 X (by decide) dX12_street_18 rfl ?_
    refine at_goto 23 X dX12_street_19 (by decide) ?_
    refine at_iconst 24 X (by decide) dX12_street_23 rfl ?_
    refine at_iconst 25 X (by decide) dX12_street_24 rfl ?_
    refine at_callV 28 X _ 12 (ct_bad1 hG E0 1 2 (by decide) hO_E0.2.2.1 (by decide)) clX12 rfl k_125 mo_X12_bad w_1960 vo_X12_bad.1 vo_X12_bad.2 rfl rfl (crm Rt (by decide)) (Nat.le_of_ble_eq_true rfl) dX12_street_25 rfl ?_
    rintro _ _ ⟨rfl, rfl⟩
    have hb : ¬ (0 ≤ x0 ∧ x0 ≤ (sz : Int)) := by omega
    refine at_if_eq 31 33 X dX12_street_28 rfl (by decide) (fun h28 => ?_) (fun h28 => ?_)
    · exact absurd h28 (by decide)
    · refine at_iconst 32 X (by decide) dX12_street_31 rfl ?_
      refine at_iret X Rt ?_ (Nat.le_refl _) (Nat.le_refl _) dX12_street_32
      exact Or.inr (⟨hb, rfl, congrArg ov (badR_of hE0)⟩)
