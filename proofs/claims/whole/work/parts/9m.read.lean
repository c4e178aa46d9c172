theorem c10_num {g : Gw} (hG : GF g) {z : Bool} (E : Mm) (B : Nat → Int) (n : Nat) (t : TS) (hT : TP E B n t) (lo hi : Int) (h0 : 0 ≤ lo) : CT g yX10_takeNumber cX10_takeNumber 4 (some .int) 1 22 0 0 K2 z [mR 1, mI lo, mI hi] (ov E) K2 z (fun r D' => r = some (mI ((nuV B n t lo hi : Nat) : Int)) ∧ ∃ E1, D' = ov E1 ∧ TP E1 B n (nuT B n t lo hi) ∧ TF E E1) :=
  (c10_takeNumber hG E B n t hT lo hi).imp (fun r D' q => ⟨by rw [← nu_cast h0]; exact q.1, q.2⟩)
theorem wr_cong {A A' : Mm} {a k q : Nat} {x : Int} (h : A q = A' q) : wr A a k x q = wr A' a k x q := by
  funext j
  unfold wr
  rw [h]
/-- a street that is being read: with its suns, behind its beams no loads -/
def CSr (E : Mm) (s : Nat) (P : SP) (ns : Nat) : Prop := CS E s P ∧ E s 11 = (ns : Int) ∧ ∀ b p, bN (sB P) ≤ b → b < 8 → p < 20 → E (s + 12) (b * 20 + p) = 0
theorem CSr.fr {E E1 : Mm} {s ns : Nat} {P : SP} (h : CSr E s P ns) (hf : ∀ q, s ≤ q → q ≤ s + 14 → E1 q = E q) : CSr E1 s P ns := by
  refine ⟨h.1.fr hf, ?_, fun b p h1 h2 h3 => ?_⟩
  · rw [hf s (by omega) (by omega)]; exact h.2.1
  · rw [hf (s + 12) (by omega) (by omega)]; exact h.2.2 b p h1 h2 h3
theorem CSr_W {E : Mm} {s ns : Nat} {P : SP} {w : Nat} (h : CSr E s P ns) : CSr (wr E s 8 (w : Int)) s (setW P w) (ns) := by
  obtain ⟨⟨h1, h2, h3, h4, h5, h6, h7, h8, h9, ha, hb, hc⟩, hn, hz⟩ := h
  exact ⟨⟨(wr_s _ _ _ _),
    (by simp (disch := omega) only [wr_o]; exact h2),
    (fun p hp => by have := h3 p hp; simp (disch := omega) only [wr_o]; exact this),
    (by simp (disch := omega) only [wr_o]; exact h4),
    (fun t ht => by have := h5 t ht; simp (disch := omega) only [wr_o]; exact this),
    (by simp (disch := omega) only [wr_o]; exact h6),
    (fun m hm => by have := h7 m hm; simp (disch := omega) only [wr_o]; exact this),
    (by simp (disch := omega) only [wr_o]; exact h8),
    (by simp (disch := omega) only [wr_o]; exact h9),
    (by simp (disch := omega) only [wr_o]; exact ha),
    (by simp (disch := omega) only [wr_o]; exact hb),
    (hc.fr (fun q a b => by simp (disch := omega) only [wr_row]))⟩, (by simp (disch := omega) only [wr_o]; exact hn), (fun b p q1 q2 q3 => by simp (disch := omega) only [wr_o]; exact hz b p q1 q2 q3)⟩
theorem CSr_Dk {E : Mm} {s ns : Nat} {P : SP} {d : Nat} (h : CSr E s P ns) : CSr (wr E s 9 (d : Int)) s (setDk P d) (ns) := by
  obtain ⟨⟨h1, h2, h3, h4, h5, h6, h7, h8, h9, ha, hb, hc⟩, hn, hz⟩ := h
  exact ⟨⟨(by simp (disch := omega) only [wr_o]; exact h1),
    (by simp (disch := omega) only [wr_o]; exact h2),
    (fun p hp => by have := h3 p hp; simp (disch := omega) only [wr_o]; exact this),
    (wr_s _ _ _ _),
    (fun t ht => by have := h5 t ht; simp (disch := omega) only [wr_o]; exact this),
    (by simp (disch := omega) only [wr_o]; exact h6),
    (fun m hm => by have := h7 m hm; simp (disch := omega) only [wr_o]; exact this),
    (by simp (disch := omega) only [wr_o]; exact h8),
    (by simp (disch := omega) only [wr_o]; exact h9),
    (by simp (disch := omega) only [wr_o]; exact ha),
    (by simp (disch := omega) only [wr_o]; exact hb),
    (hc.fr (fun q a b => by simp (disch := omega) only [wr_row]))⟩, (by simp (disch := omega) only [wr_o]; exact hn), (fun b p q1 q2 q3 => by simp (disch := omega) only [wr_o]; exact hz b p q1 q2 q3)⟩
theorem CSr_Po {E : Mm} {s ns : Nat} {P : SP} {x hh : Nat} (h : CSr E s P ns) : CSr (wr (wr (wr E (s + 1) (sN P) (x : Int)) (s + 2) (sN P) (hh : Int)) s 10 ((sN P + 1 : Nat) : Int)) s (addPo P x hh) (ns) := by
  obtain ⟨⟨h1, h2, h3, h4, h5, h6, h7, h8, h9, ha, hb, hc⟩, hn, hz⟩ := h
  exact ⟨⟨(by simp (disch := omega) only [wr_o]; exact h1),
    (wr_s _ _ _ _),
    (fun p hp => by
      have hp' : p < sN P + 1 := hp
      show _ = ((pt1 (sX P) (sN P) x p : Nat) : Int) ∧ _ = ((pt1 (sH P) (sN P) hh p : Nat) : Int)
      by_cases c : p = sN P
      · subst c; rw [pt1_s, pt1_s]; exact ⟨by rw [wr_o (by omega), wr_o (by omega), wr_s], by rw [wr_o (by omega), wr_s]⟩
      · have := h3 p (by omega)
        rw [pt1_o c, pt1_o c]; exact ⟨by rw [wr_o (by omega), wr_o (by omega), wr_o (by omega)]; exact this.1, by rw [wr_o (by omega), wr_o (by omega), wr_o (by omega)]; exact this.2⟩),
    (by simp (disch := omega) only [wr_o]; exact h4),
    (fun t ht => by have := h5 t ht; simp (disch := omega) only [wr_o]; exact this),
    (by simp (disch := omega) only [wr_o]; exact h6),
    (fun m hm => by have := h7 m hm; simp (disch := omega) only [wr_o]; exact this),
    (by simp (disch := omega) only [wr_o]; exact h8),
    (by simp (disch := omega) only [wr_o]; exact h9),
    (by simp (disch := omega) only [wr_o]; exact ha),
    (by simp (disch := omega) only [wr_o]; exact hb),
    (hc.fr (fun q a b => by simp (disch := omega) only [wr_row]))⟩, (by simp (disch := omega) only [wr_o]; exact hn), (fun b p q1 q2 q3 => by simp (disch := omega) only [wr_o]; exact hz b p q1 q2 q3)⟩
theorem CSr_Su {E : Mm} {s ns : Nat} {P : SP} {f w l : Nat} (h : CSr E s P ns) (hw : w ≤ 1) : CSr (wr (wr (wr E (s + 4) f (w : Int)) (s + 3) f (l : Int)) s 11 ((ns + 1 : Nat) : Int)) s (setSu P f w l) (ns + 1) := by
  obtain ⟨⟨h1, h2, h3, h4, h5, h6, h7, h8, h9, ha, hb, hc⟩, hn, hz⟩ := h
  exact ⟨⟨(by simp (disch := omega) only [wr_o]; exact h1),
    (by simp (disch := omega) only [wr_o]; exact h2),
    (fun p hp => by have := h3 p hp; simp (disch := omega) only [wr_o]; exact this),
    (by simp (disch := omega) only [wr_o]; exact h4),
    (fun t ht => by
      show _ = pt1 (sSl P) f (l : Int) t ∧ (¬ pt1 (sSl P) f (l : Int) t = -1 → _ = if pt1 (sSw P) f (decide (w = 1)) t = true then 1 else 0)
      by_cases c : t = f
      · subst c
        rw [pt1_s, pt1_s]
        refine ⟨by rw [wr_o (by omega), wr_s], fun _ => ?_⟩
        rw [wr_o (by omega), wr_o (by omega), wr_s]
        by_cases cw : w = 1
        · rw [cw]; rfl
        · rw [show w = 0 by omega]; rfl
      · have := h5 t ht
        rw [pt1_o c, pt1_o c]
        exact ⟨by rw [wr_o (by omega), wr_o (by omega), wr_o (by omega)]; exact this.1, fun q => by rw [wr_o (by omega), wr_o (by omega), wr_o (by omega)]; exact this.2 q⟩),
    (by simp (disch := omega) only [wr_o]; exact h6),
    (fun m hm => by have := h7 m hm; simp (disch := omega) only [wr_o]; exact this),
    (by simp (disch := omega) only [wr_o]; exact h8),
    (by simp (disch := omega) only [wr_o]; exact h9),
    (by simp (disch := omega) only [wr_o]; exact ha),
    (by simp (disch := omega) only [wr_o]; exact hb),
    (hc.fr (fun q a b => by simp (disch := omega) only [wr_row]))⟩, (wr_s _ _ _ _), (fun b p q1 q2 q3 => by simp (disch := omega) only [wr_o]; exact hz b p q1 q2 q3)⟩
theorem CSr_Mo {E : Mm} {s ns : Nat} {P : SP} {b l m : Nat} (h : CSr E s P ns) : CSr (wr (wr (wr (wr E (s + 5) (sM P) (b : Int)) (s + 6) (sM P) (l : Int)) (s + 7) (sM P) (m : Int)) s 12 ((sM P + 1 : Nat) : Int)) s (addMo P b l m) (ns) := by
  obtain ⟨⟨h1, h2, h3, h4, h5, h6, h7, h8, h9, ha, hb, hc⟩, hn, hz⟩ := h
  exact ⟨⟨(by simp (disch := omega) only [wr_o]; exact h1),
    (by simp (disch := omega) only [wr_o]; exact h2),
    (fun p hp => by have := h3 p hp; simp (disch := omega) only [wr_o]; exact this),
    (by simp (disch := omega) only [wr_o]; exact h4),
    (fun t ht => by have := h5 t ht; simp (disch := omega) only [wr_o]; exact this),
    (wr_s _ _ _ _),
    (fun k hk => by
      have hk' : k < sM P + 1 := hk
      show _ = ((pt1 (sMb P) (sM P) b k : Nat) : Int) ∧ _ = ((pt1 (sMl P) (sM P) l k : Nat) : Int) ∧ _ = ((pt1 (sMn P) (sM P) m k : Nat) : Int)
      by_cases c : k = sM P
      · subst c; rw [pt1_s, pt1_s, pt1_s]; exact ⟨by rw [wr_o (by omega), wr_o (by omega), wr_o (by omega), wr_s], by rw [wr_o (by omega), wr_o (by omega), wr_s], by rw [wr_o (by omega), wr_s]⟩
      · have := h7 k (by omega)
        rw [pt1_o c, pt1_o c, pt1_o c]; exact ⟨by rw [wr_o (by omega), wr_o (by omega), wr_o (by omega), wr_o (by omega)]; exact this.1, by rw [wr_o (by omega), wr_o (by omega), wr_o (by omega), wr_o (by omega)]; exact this.2.1, by rw [wr_o (by omega), wr_o (by omega), wr_o (by omega), wr_o (by omega)]; exact this.2.2⟩),
    (by simp (disch := omega) only [wr_o]; exact h8),
    (by simp (disch := omega) only [wr_o]; exact h9),
    (by simp (disch := omega) only [wr_o]; exact ha),
    (by simp (disch := omega) only [wr_o]; exact hb),
    (hc.fr (fun q a b => by simp (disch := omega) only [wr_row]))⟩, (by simp (disch := omega) only [wr_o]; exact hn), (fun b p q1 q2 q3 => by simp (disch := omega) only [wr_o]; exact hz b p q1 q2 q3)⟩
theorem CSr_Cl {E : Mm} {s ns : Nat} {P : SP} {f t : Nat} (h : CSr E s P ns) : CSr (wr (wr E s 15 ((mk (fun h => sC P h || (decide (f ≤ h) && decide (h ≤ t))) 24 : Nat) : Int)) s 13 ((sCn P + 1 : Nat) : Int)) s (addCl P f t) (ns) := by
  obtain ⟨⟨h1, h2, h3, h4, h5, h6, h7, h8, h9, ha, hb, hc⟩, hn, hz⟩ := h
  exact ⟨⟨(by simp (disch := omega) only [wr_o]; exact h1),
    (by simp (disch := omega) only [wr_o]; exact h2),
    (fun p hp => by have := h3 p hp; simp (disch := omega) only [wr_o]; exact this),
    (by simp (disch := omega) only [wr_o]; exact h4),
    (fun t ht => by have := h5 t ht; simp (disch := omega) only [wr_o]; exact this),
    (by simp (disch := omega) only [wr_o]; exact h6),
    (fun m hm => by have := h7 m hm; simp (disch := omega) only [wr_o]; exact this),
    (wr_s _ _ _ _),
    ((wr_o (by omega)).trans (wr_s _ _ _ _)),
    (by simp (disch := omega) only [wr_o]; exact ha),
    (by simp (disch := omega) only [wr_o]; exact hb),
    (hc.fr (fun q a b => by simp (disch := omega) only [wr_row]))⟩, (by simp (disch := omega) only [wr_o]; exact hn), (fun b p q1 q2 q3 => by simp (disch := omega) only [wr_o]; exact hz b p q1 q2 q3)⟩
theorem CSr_La {E : Mm} {s ns : Nat} {P : SP} {x r : Nat} (h : CSr E s P ns) : CSr (wr (wr E s 16 ((mk (fun c => sLc P c || (decide (c ≤ x + r) && decide (x ≤ c + r))) 50 : Nat) : Int)) s 14 ((sLn P + 1 : Nat) : Int)) s (addLa P x r) (ns) := by
  obtain ⟨⟨h1, h2, h3, h4, h5, h6, h7, h8, h9, ha, hb, hc⟩, hn, hz⟩ := h
  exact ⟨⟨(by simp (disch := omega) only [wr_o]; exact h1),
    (by simp (disch := omega) only [wr_o]; exact h2),
    (fun p hp => by have := h3 p hp; simp (disch := omega) only [wr_o]; exact this),
    (by simp (disch := omega) only [wr_o]; exact h4),
    (fun t ht => by have := h5 t ht; simp (disch := omega) only [wr_o]; exact this),
    (by simp (disch := omega) only [wr_o]; exact h6),
    (fun m hm => by have := h7 m hm; simp (disch := omega) only [wr_o]; exact this),
    (by simp (disch := omega) only [wr_o]; exact h8),
    (by simp (disch := omega) only [wr_o]; exact h9),
    (wr_s _ _ _ _),
    ((wr_o (by omega)).trans (wr_s _ _ _ _)),
    (hc.fr (fun q a b => by simp (disch := omega) only [wr_row]))⟩, (by simp (disch := omega) only [wr_o]; exact hn), (fun b p q1 q2 q3 => by simp (disch := omega) only [wr_o]; exact hz b p q1 q2 q3)⟩
theorem dX9_isFull_0 : decode cX9_isFull 0 = .ok (.iload_n 1, 1) := by decide +kernel
theorem dX9_isFull_1 : decode cX9_isFull 1 = .ok (.tableswitch 135 2 8 #[43, 58, 135, 73, 87, 102, 117], 43) := by decide +kernel
theorem dX9_isFull_44 : decode cX9_isFull 44 = .ok (.aload_n 0, 1) := by decide +kernel
theorem dX9_isFull_45 : decode cX9_isFull 45 = .ok (.getfield 50, 3) := by decide +kernel
theorem dX9_isFull_48 : decode cX9_isFull 48 = .ok (.bipush 10, 2) := by decide +kernel
theorem dX9_isFull_50 : decode cX9_isFull 50 = .ok (.if_icmp .lt 7, 3) := by decide +kernel
theorem dX9_isFull_53 : decode cX9_isFull 53 = .ok (.iconst 1, 1) := by decide +kernel
theorem dX9_isFull_54 : decode cX9_isFull 54 = .ok (.goto 4, 3) := by decide +kernel
theorem dX9_isFull_57 : decode cX9_isFull 57 = .ok (.iconst 0, 1) := by decide +kernel
theorem dX9_isFull_58 : decode cX9_isFull 58 = .ok (.ireturn, 1) := by decide +kernel
theorem dX9_isFull_59 : decode cX9_isFull 59 = .ok (.aload_n 0, 1) := by decide +kernel
theorem dX9_isFull_60 : decode cX9_isFull 60 = .ok (.getfield 53, 3) := by decide +kernel
theorem dX9_isFull_63 : decode cX9_isFull 63 = .ok (.bipush 12, 2) := by decide +kernel
theorem dX9_isFull_65 : decode cX9_isFull 65 = .ok (.if_icmp .lt 7, 3) := by decide +kernel
theorem dX9_isFull_68 : decode cX9_isFull 68 = .ok (.iconst 1, 1) := by decide +kernel
theorem dX9_isFull_69 : decode cX9_isFull 69 = .ok (.goto 4, 3) := by decide +kernel
theorem dX9_isFull_72 : decode cX9_isFull 72 = .ok (.iconst 0, 1) := by decide +kernel
theorem dX9_isFull_73 : decode cX9_isFull 73 = .ok (.ireturn, 1) := by decide +kernel
theorem dX9_isFull_74 : decode cX9_isFull 74 = .ok (.aload_n 0, 1) := by decide +kernel
theorem dX9_isFull_75 : decode cX9_isFull 75 = .ok (.getfield 56, 3) := by decide +kernel
theorem dX9_isFull_78 : decode cX9_isFull 78 = .ok (.iconst 3, 1) := by decide +kernel
theorem dX9_isFull_79 : decode cX9_isFull 79 = .ok (.if_icmp .lt 7, 3) := by decide +kernel
theorem dX9_isFull_82 : decode cX9_isFull 82 = .ok (.iconst 1, 1) := by decide +kernel
theorem dX9_isFull_83 : decode cX9_isFull 83 = .ok (.goto 4, 3) := by decide +kernel
theorem dX9_isFull_86 : decode cX9_isFull 86 = .ok (.iconst 0, 1) := by decide +kernel
theorem dX9_isFull_87 : decode cX9_isFull 87 = .ok (.ireturn, 1) := by decide +kernel
theorem dX9_isFull_88 : decode cX9_isFull 88 = .ok (.aload_n 0, 1) := by decide +kernel
theorem dX9_isFull_89 : decode cX9_isFull 89 = .ok (.getfield 59, 3) := by decide +kernel
theorem dX9_isFull_92 : decode cX9_isFull 92 = .ok (.bipush 6, 2) := by decide +kernel
theorem dX9_isFull_94 : decode cX9_isFull 94 = .ok (.if_icmp .lt 7, 3) := by decide +kernel
theorem dX9_isFull_97 : decode cX9_isFull 97 = .ok (.iconst 1, 1) := by decide +kernel
theorem dX9_isFull_98 : decode cX9_isFull 98 = .ok (.goto 4, 3) := by decide +kernel
theorem dX9_isFull_101 : decode cX9_isFull 101 = .ok (.iconst 0, 1) := by decide +kernel
theorem dX9_isFull_102 : decode cX9_isFull 102 = .ok (.ireturn, 1) := by decide +kernel
theorem dX9_isFull_103 : decode cX9_isFull 103 = .ok (.aload_n 0, 1) := by decide +kernel
theorem dX9_isFull_104 : decode cX9_isFull 104 = .ok (.getfield 62, 3) := by decide +kernel
theorem dX9_isFull_107 : decode cX9_isFull 107 = .ok (.bipush 6, 2) := by decide +kernel
theorem dX9_isFull_109 : decode cX9_isFull 109 = .ok (.if_icmp .lt 7, 3) := by decide +kernel
theorem dX9_isFull_112 : decode cX9_isFull 112 = .ok (.iconst 1, 1) := by decide +kernel
theorem dX9_isFull_113 : decode cX9_isFull 113 = .ok (.goto 4, 3) := by decide +kernel
theorem dX9_isFull_116 : decode cX9_isFull 116 = .ok (.iconst 0, 1) := by decide +kernel
theorem dX9_isFull_117 : decode cX9_isFull 117 = .ok (.ireturn, 1) := by decide +kernel
theorem dX9_isFull_118 : decode cX9_isFull 118 = .ok (.aload_n 0, 1) := by decide +kernel
theorem dX9_isFull_119 : decode cX9_isFull 119 = .ok (.getfield 36, 3) := by decide +kernel
theorem dX9_isFull_122 : decode cX9_isFull 122 = .ok (.getfield 134, 3) := by decide +kernel
theorem dX9_isFull_125 : decode cX9_isFull 125 = .ok (.bipush 8, 2) := by decide +kernel
theorem dX9_isFull_127 : decode cX9_isFull 127 = .ok (.if_icmp .lt 7, 3) := by decide +kernel
theorem dX9_isFull_130 : decode cX9_isFull 130 = .ok (.iconst 1, 1) := by decide +kernel
theorem dX9_isFull_131 : decode cX9_isFull 131 = .ok (.goto 4, 3) := by decide +kernel
theorem dX9_isFull_134 : decode cX9_isFull 134 = .ok (.iconst 0, 1) := by decide +kernel
theorem dX9_isFull_135 : decode cX9_isFull 135 = .ok (.ireturn, 1) := by decide +kernel
theorem dX9_isFull_136 : decode cX9_isFull 136 = .ok (.iconst 0, 1) := by decide +kernel
theorem dX9_isFull_137 : decode cX9_isFull 137 = .ok (.ireturn, 1) := by decide +kernel
theorem ct_X9_isFull {g : Gw} (hG : GF g) {z : Bool} (E : Mm) (s : Nat) (hs : s = 68 ∨ s = 83) (P : SP) (ns : Nat) (hP : WS P) (hS : CSr E s P ns) (kd : Int) : CT g yX9_isFull cX9_isFull 2 (some .boolean) 0 0 0 0 K2 z [mR s, mI kd] (ov E) K2 z (fun r D' => r = some (mI (if fuW P ns kd = true then 1 else 0)) ∧ D' = ov E) := by
  refine CT.mk hG (by decide +kernel) (Nat.le_of_ble_eq_true rfl) (fun κ X Rt _ ok => ?_)
  refine at_iload_n 1 X rfl rfl dX9_isFull_0 rfl ?_
  rcases (show kd = 2 ∨ kd = 3 ∨ kd = 4 ∨ kd = 5 ∨ kd = 6 ∨ kd = 7 ∨ kd = 8 ∨ (kd < 2 ∨ 8 < kd) by omega) with h1 | h1 | h1 | h1 | h1 | h1 | h1 | h1
  · refine at_tswIn 44 X dX9_isFull_1 (by omega) (by rw [h1]; rfl) (by decide) ?_
    have hkx : kd = 2 := h1
    refine at_aload_n 45 X rfl rfl dX9_isFull_44 rfl ?_
    refine m_getIV 48 X ((sN P : Nat) : Int) hS.1.N f_X9_50 (kX9 hs) (nX9_10 hs) dX9_isFull_45 rfl ?_
    have := hP.N
    refine at_bipush 50 X (by decide) (by decide) dX9_isFull_48 rfl ?_
    refine at_icmp_lt 53 57 X dX9_isFull_50 rfl (by decide) (fun h50 => ?_) (fun h50 => ?_)
    · refine at_iconst 58 X (by decide) dX9_isFull_57 rfl ?_
      refine at_zret X Rt ?_ (by first | decide | (split <;> decide)) (Nat.le_refl _) (Nat.le_refl _) dX9_isFull_58
      exact ⟨by unfold fuW; subst hkx; first | rfl | (simp only [if_true, if_false, Int.reduceEq, reduceCtorEq, decide_eq_true_eq]; first | rw [if_pos (by omega)] | rw [if_neg (by omega)]), rfl⟩
    · refine at_iconst 54 X (by decide) dX9_isFull_53 rfl ?_
      refine at_goto 58 X dX9_isFull_54 (by decide) ?_
      refine at_zret X Rt ?_ (by first | decide | (split <;> decide)) (Nat.le_refl _) (Nat.le_refl _) dX9_isFull_58
      exact ⟨by unfold fuW; subst hkx; first | rfl | (simp only [if_true, if_false, Int.reduceEq, reduceCtorEq, decide_eq_true_eq]; first | rw [if_pos (by omega)] | rw [if_neg (by omega)]), rfl⟩
  · refine at_tswIn 59 X dX9_isFull_1 (by omega) (by rw [h1]; rfl) (by decide) ?_
    have hkx : kd = 3 := h1
    refine at_aload_n 60 X rfl rfl dX9_isFull_59 rfl ?_
    refine m_getIV 63 X ((ns : Nat) : Int) hS.2.1 f_X9_53 (kX9 hs) (nX9_11 hs) dX9_isFull_60 rfl ?_
    refine at_bipush 65 X (by decide) (by decide) dX9_isFull_63 rfl ?_
    refine at_icmp_lt 68 72 X dX9_isFull_65 rfl (by decide) (fun h65 => ?_) (fun h65 => ?_)
    · refine at_iconst 73 X (by decide) dX9_isFull_72 rfl ?_
      refine at_zret X Rt ?_ (by first | decide | (split <;> decide)) (Nat.le_refl _) (Nat.le_refl _) dX9_isFull_73
      exact ⟨by unfold fuW; subst hkx; first | rfl | (simp only [if_true, if_false, Int.reduceEq, reduceCtorEq, decide_eq_true_eq]; first | rw [if_pos (by omega)] | rw [if_neg (by omega)]), rfl⟩
    · refine at_iconst 69 X (by decide) dX9_isFull_68 rfl ?_
      refine at_goto 73 X dX9_isFull_69 (by decide) ?_
      refine at_zret X Rt ?_ (by first | decide | (split <;> decide)) (Nat.le_refl _) (Nat.le_refl _) dX9_isFull_73
      exact ⟨by unfold fuW; subst hkx; first | rfl | (simp only [if_true, if_false, Int.reduceEq, reduceCtorEq, decide_eq_true_eq]; first | rw [if_pos (by omega)] | rw [if_neg (by omega)]), rfl⟩
  · refine at_tswIn 136 X dX9_isFull_1 (by omega) (by rw [h1]; rfl) (by decide) ?_
    have hkx : kd = 4 := h1
    refine at_iconst 137 X (by decide) dX9_isFull_136 rfl ?_
    refine at_zret X Rt ?_ (by first | decide | (split <;> decide)) (Nat.le_refl _) (Nat.le_refl _) dX9_isFull_137
    have e : fuW P ns kd = false := by unfold fuW; rw [if_neg (by omega), if_neg (by omega), if_neg (by omega), if_neg (by omega), if_neg (by omega), if_neg (by omega)]
    exact ⟨by rw [e]; rfl, rfl⟩
  · refine at_tswIn 74 X dX9_isFull_1 (by omega) (by rw [h1]; rfl) (by decide) ?_
    have hkx : kd = 5 := h1
    refine at_aload_n 75 X rfl rfl dX9_isFull_74 rfl ?_
    refine m_getIV 78 X ((sM P : Nat) : Int) hS.1.M f_X9_56 (kX9 hs) (nX9_12 hs) dX9_isFull_75 rfl ?_
    have := hP.M
    refine at_iconst 79 X (by decide) dX9_isFull_78 rfl ?_
    refine at_icmp_lt 82 86 X dX9_isFull_79 rfl (by decide) (fun h79 => ?_) (fun h79 => ?_)
    · refine at_iconst 87 X (by decide) dX9_isFull_86 rfl ?_
      refine at_zret X Rt ?_ (by first | decide | (split <;> decide)) (Nat.le_refl _) (Nat.le_refl _) dX9_isFull_87
      exact ⟨by unfold fuW; subst hkx; first | rfl | (simp only [if_true, if_false, Int.reduceEq, reduceCtorEq, decide_eq_true_eq]; first | rw [if_pos (by omega)] | rw [if_neg (by omega)]), rfl⟩
    · refine at_iconst 83 X (by decide) dX9_isFull_82 rfl ?_
      refine at_goto 87 X dX9_isFull_83 (by decide) ?_
      refine at_zret X Rt ?_ (by first | decide | (split <;> decide)) (Nat.le_refl _) (Nat.le_refl _) dX9_isFull_87
      exact ⟨by unfold fuW; subst hkx; first | rfl | (simp only [if_true, if_false, Int.reduceEq, reduceCtorEq, decide_eq_true_eq]; first | rw [if_pos (by omega)] | rw [if_neg (by omega)]), rfl⟩
  · refine at_tswIn 88 X dX9_isFull_1 (by omega) (by rw [h1]; rfl) (by decide) ?_
    have hkx : kd = 6 := h1
    refine at_aload_n 89 X rfl rfl dX9_isFull_88 rfl ?_
    refine m_getIV 92 X ((sCn P : Nat) : Int) hS.1.Cn f_X9_59 (kX9 hs) (nX9_13 hs) dX9_isFull_89 rfl ?_
    have := hP.Cn
    refine at_bipush 94 X (by decide) (by decide) dX9_isFull_92 rfl ?_
    refine at_icmp_lt 97 101 X dX9_isFull_94 rfl (by decide) (fun h94 => ?_) (fun h94 => ?_)
    · refine at_iconst 102 X (by decide) dX9_isFull_101 rfl ?_
      refine at_zret X Rt ?_ (by first | decide | (split <;> decide)) (Nat.le_refl _) (Nat.le_refl _) dX9_isFull_102
      exact ⟨by unfold fuW; subst hkx; first | rfl | (simp only [if_true, if_false, Int.reduceEq, reduceCtorEq, decide_eq_true_eq]; first | rw [if_pos (by omega)] | rw [if_neg (by omega)]), rfl⟩
    · refine at_iconst 98 X (by decide) dX9_isFull_97 rfl ?_
      refine at_goto 102 X dX9_isFull_98 (by decide) ?_
      refine at_zret X Rt ?_ (by first | decide | (split <;> decide)) (Nat.le_refl _) (Nat.le_refl _) dX9_isFull_102
      exact ⟨by unfold fuW; subst hkx; first | rfl | (simp only [if_true, if_false, Int.reduceEq, reduceCtorEq, decide_eq_true_eq]; first | rw [if_pos (by omega)] | rw [if_neg (by omega)]), rfl⟩
  · refine at_tswIn 103 X dX9_isFull_1 (by omega) (by rw [h1]; rfl) (by decide) ?_
    have hkx : kd = 7 := h1
    refine at_aload_n 104 X rfl rfl dX9_isFull_103 rfl ?_
    refine m_getIV 107 X ((sLn P : Nat) : Int) hS.1.Ln f_X9_62 (kX9 hs) (nX9_14 hs) dX9_isFull_104 rfl ?_
    have := hP.Ln
    refine at_bipush 109 X (by decide) (by decide) dX9_isFull_107 rfl ?_
    refine at_icmp_lt 112 116 X dX9_isFull_109 rfl (by decide) (fun h109 => ?_) (fun h109 => ?_)
    · refine at_iconst 117 X (by decide) dX9_isFull_116 rfl ?_
      refine at_zret X Rt ?_ (by first | decide | (split <;> decide)) (Nat.le_refl _) (Nat.le_refl _) dX9_isFull_117
      exact ⟨by unfold fuW; subst hkx; first | rfl | (simp only [if_true, if_false, Int.reduceEq, reduceCtorEq, decide_eq_true_eq]; first | rw [if_pos (by omega)] | rw [if_neg (by omega)]), rfl⟩
    · refine at_iconst 113 X (by decide) dX9_isFull_112 rfl ?_
      refine at_goto 117 X dX9_isFull_113 (by decide) ?_
      refine at_zret X Rt ?_ (by first | decide | (split <;> decide)) (Nat.le_refl _) (Nat.le_refl _) dX9_isFull_117
      exact ⟨by unfold fuW; subst hkx; first | rfl | (simp only [if_true, if_false, Int.reduceEq, reduceCtorEq, decide_eq_true_eq]; first | rw [if_pos (by omega)] | rw [if_neg (by omega)]), rfl⟩
  · refine at_tswIn 118 X dX9_isFull_1 (by omega) (by rw [h1]; rfl) (by decide) ?_
    have hkx : kd = 8 := h1
    refine at_aload_n 119 X rfl rfl dX9_isFull_118 rfl ?_
    refine m_getR 122 X f_X9_36 (kX9 hs) (rX9_7 hs) dX9_isFull_119 rfl ?_
    refine m_getIV 125 X ((bN (sB P) : Nat) : Int) hS.1.B.N f_X9_134 (kX0 (iB_8 hs)) (nX0_6 (iB_8 hs)) dX9_isFull_122 rfl ?_
    refine at_bipush 127 X (by decide) (by decide) dX9_isFull_125 rfl ?_
    refine at_icmp_lt 130 134 X dX9_isFull_127 rfl (by decide) (fun h127 => ?_) (fun h127 => ?_)
    · refine at_iconst 135 X (by decide) dX9_isFull_134 rfl ?_
      refine at_zret X Rt ?_ (by first | decide | (split <;> decide)) (Nat.le_refl _) (Nat.le_refl _) dX9_isFull_135
      exact ⟨by unfold fuW; subst hkx; first | rfl | (simp only [if_true, if_false, Int.reduceEq, reduceCtorEq, decide_eq_true_eq]; first | rw [if_pos (by omega)] | rw [if_neg (by omega)]), rfl⟩
    · refine at_iconst 131 X (by decide) dX9_isFull_130 rfl ?_
      refine at_goto 135 X dX9_isFull_131 (by decide) ?_
      refine at_zret X Rt ?_ (by first | decide | (split <;> decide)) (Nat.le_refl _) (Nat.le_refl _) dX9_isFull_135
      exact ⟨by unfold fuW; subst hkx; first | rfl | (simp only [if_true, if_false, Int.reduceEq, reduceCtorEq, decide_eq_true_eq]; first | rw [if_pos (by omega)] | rw [if_neg (by omega)]), rfl⟩
  · refine at_tswOut 136 X dX9_isFull_1 h1 (by decide) ?_
    refine at_iconst 137 X (by decide) dX9_isFull_136 rfl ?_
    refine at_zret X Rt ?_ (by first | decide | (split <;> decide)) (Nat.le_refl _) (Nat.le_refl _) dX9_isFull_137
    have e : fuW P ns kd = false := by unfold fuW; rw [if_neg (by omega), if_neg (by omega), if_neg (by omega), if_neg (by omega), if_neg (by omega), if_neg (by omega)]
    exact ⟨by rw [e]; rfl, rfl⟩
/-- only the tape's reading and a street have changed -/
def DF (s : Nat) (E E1 : Mm) : Prop := (∀ q, q ≠ 1 → ¬ (s ≤ q ∧ q ≤ s + 14) → E1 q = E q) ∧ ∀ k, ¬ (3 ≤ k ∧ k ≤ 6) → E1 1 k = E 1 k
theorem DF.rf {s : Nat} {E : Mm} : DF s E E := ⟨fun _ _ _ => rfl, fun _ _ => rfl⟩
theorem DF.tr {s : Nat} {E E1 E2 : Mm} (h : DF s E E1) (h2 : DF s E1 E2) : DF s E E2 := ⟨fun q a b => (h2.1 q a b).trans (h.1 q a b), fun k hk => (h2.2 k hk).trans (h.2 k hk)⟩
theorem TF.df {s : Nat} {E E1 : Mm} (h : TF E E1) : DF s E E1 := ⟨fun q a _ => h.1 q a, h.2⟩
theorem dX9_readPost_0 : decode cX9_readPost 0 = .ok (.aload_n 1, 1) := by decide +kernel
theorem dX9_readPost_1 : decode cX9_readPost 1 = .ok (.iconst 0, 1) := by decide +kernel
theorem dX9_readPost_2 : decode cX9_readPost 2 = .ok (.aload_n 0, 1) := by decide +kernel
theorem dX9_readPost_3 : decode cX9_readPost 3 = .ok (.getfield 43, 3) := by decide +kernel
theorem dX9_readPost_6 : decode cX9_readPost 6 = .ok (.iconst 1, 1) := by decide +kernel
theorem dX9_readPost_7 : decode cX9_readPost 7 = .ok (.isub, 1) := by decide +kernel
theorem dX9_readPost_8 : decode cX9_readPost 8 = .ok (.invokevirtual 137, 3) := by decide +kernel
theorem dX9_readPost_11 : decode cX9_readPost 11 = .ok (.istore_n 2, 1) := by decide +kernel
theorem dX9_readPost_12 : decode cX9_readPost 12 = .ok (.aload_n 0, 1) := by decide +kernel
theorem dX9_readPost_13 : decode cX9_readPost 13 = .ok (.iload_n 2, 1) := by decide +kernel
theorem dX9_readPost_14 : decode cX9_readPost 14 = .ok (.invokevirtual 163, 3) := by decide +kernel
theorem dX9_readPost_17 : decode cX9_readPost 17 = .ok (.ifCond .eq 8, 3) := by decide +kernel
theorem dX9_readPost_20 : decode cX9_readPost 20 = .ok (.aload_n 1, 1) := by decide +kernel
theorem dX9_readPost_21 : decode cX9_readPost 21 = .ok (.iconst 2, 1) := by decide +kernel
theorem dX9_readPost_22 : decode cX9_readPost 22 = .ok (.invokevirtual 96, 3) := by decide +kernel
theorem dX9_readPost_25 : decode cX9_readPost 25 = .ok (.aload_n 1, 1) := by decide +kernel
theorem dX9_readPost_26 : decode cX9_readPost 26 = .ok (.iconst 1, 1) := by decide +kernel
theorem dX9_readPost_27 : decode cX9_readPost 27 = .ok (.bipush 99, 2) := by decide +kernel
theorem dX9_readPost_29 : decode cX9_readPost 29 = .ok (.invokevirtual 137, 3) := by decide +kernel
theorem dX9_readPost_32 : decode cX9_readPost 32 = .ok (.istore_n 3, 1) := by decide +kernel
theorem dX9_readPost_33 : decode cX9_readPost 33 = .ok (.aload_n 0, 1) := by decide +kernel
theorem dX9_readPost_34 : decode cX9_readPost 34 = .ok (.getfield 9, 3) := by decide +kernel
theorem dX9_readPost_37 : decode cX9_readPost 37 = .ok (.aload_n 0, 1) := by decide +kernel
theorem dX9_readPost_38 : decode cX9_readPost 38 = .ok (.getfield 50, 3) := by decide +kernel
theorem dX9_readPost_41 : decode cX9_readPost 41 = .ok (.iload_n 2, 1) := by decide +kernel
theorem dX9_readPost_42 : decode cX9_readPost 42 = .ok (.iastore, 1) := by decide +kernel
theorem dX9_readPost_43 : decode cX9_readPost 43 = .ok (.aload_n 0, 1) := by decide +kernel
theorem dX9_readPost_44 : decode cX9_readPost 44 = .ok (.getfield 15, 3) := by decide +kernel
theorem dX9_readPost_47 : decode cX9_readPost 47 = .ok (.aload_n 0, 1) := by decide +kernel
theorem dX9_readPost_48 : decode cX9_readPost 48 = .ok (.getfield 50, 3) := by decide +kernel
theorem dX9_readPost_51 : decode cX9_readPost 51 = .ok (.iload_n 3, 1) := by decide +kernel
theorem dX9_readPost_52 : decode cX9_readPost 52 = .ok (.iastore, 1) := by decide +kernel
theorem dX9_readPost_53 : decode cX9_readPost 53 = .ok (.aload_n 0, 1) := by decide +kernel
theorem dX9_readPost_54 : decode cX9_readPost 54 = .ok (.dup, 1) := by decide +kernel
theorem dX9_readPost_55 : decode cX9_readPost 55 = .ok (.getfield 50, 3) := by decide +kernel
theorem dX9_readPost_58 : decode cX9_readPost 58 = .ok (.iconst 1, 1) := by decide +kernel
theorem dX9_readPost_59 : decode cX9_readPost 59 = .ok (.iadd, 1) := by decide +kernel
theorem dX9_readPost_60 : decode cX9_readPost 60 = .ok (.putfield 50, 3) := by decide +kernel
theorem dX9_readPost_63 : decode cX9_readPost 63 = .ok (.return_, 1) := by decide +kernel
theorem ct_X9_readPost {g : Gw} (hG : GF g) {z : Bool} (E : Mm) (s : Nat) (hs : s = 68 ∨ s = 83) (P : SP) (ns : Nat) (hP : WS P) (hS : CSr E s P ns) (B : Nat → Int) (n : Nat) (t : TS) (hT_E : TP E B n t) (hN : sN P < 10) : CT g yX9_readPost cX9_readPost 4 none 2 45 0 0 K2 z [mR s, mR 1] (ov E) K2 z (fun r D' => r = none ∧ ∃ E1, D' = ov E1 ∧ TP E1 B n (poC B n t P).1 ∧ CSr E1 s (poC B n t P).2 ns ∧ DF s E E1) := by
  refine CT.mk hG (by decide +kernel) (Nat.le_of_ble_eq_true rfl) (fun κ X Rt _ ok => ?_)
  have hW40 := hP.W
  have hN10 := hP.N
  refine at_aload_n 1 X rfl rfl dX9_readPost_0 rfl ?_
  refine at_iconst 2 X (by decide) dX9_readPost_1 rfl ?_
  refine at_aload_n 3 X rfl rfl dX9_readPost_2 rfl ?_
  refine m_getIV 6 X ((sW P : Nat) : Int) hS.1.W f_X9_43 (kX9 hs) (nX9_8 hs) dX9_readPost_3 rfl ?_
  have := hP.W
  refine at_iconst 7 X (by decide) dX9_readPost_6 rfl ?_
  refine at_isubV 8 X (((sW P : Nat) : Int) - 1) (w32_v rfl (by omega) (by omega)) dX9_readPost_7 rfl ?_
  refine at_callV 11 X _ 10 (c10_num hG E B n t hT_E 0 (((sW P : Nat) : Int) - 1) (by omega)) clX10 rfl k_1 mo_X10_takeNumber w_1043 vo_X10_takeNumber.1 vo_X10_takeNumber.2 rfl rfl (crm Rt (by decide)) (Nat.le_of_ble_eq_true rfl) dX9_readPost_8 rfl ?_
  rintro _ _ ⟨rfl, F1, rfl, hT_F1, hf_F1⟩
  have hq_F1 : ∀ q, q ≠ 1 → F1 q = E q := fun q h0 => hf_F1.1 q h0
  have := nu_in (B := B) (n := n) (t := t) (lo := 0) (hi := (((sW P : Nat) : Int) - 1)) (by omega)
  refine at_istore_n 12 X rfl dX9_readPost_11 rfl (by decide) ?_
  have J25 : ∀ (F5 : Mm), (TP F5 B n (poU B n t P)) → (∀ q, q ≠ 1 → F5 q = E q) → (∀ k, ¬ (3 ≤ k ∧ k ≤ 6) → F5 1 k = E 1 k) → AT g κ K2 z 0 0 25 [(0, mR s), (1, mR 1), (2, mI ((nuV B n t 0 (((sW P : Nat) : Int) - 1) : Nat) : Int))] [] (ov F5) := by
    intro F5 hT_F5 hq_F5 hk_F5
    refine at_aload_n 26 X rfl rfl dX9_readPost_25 rfl ?_
    refine at_iconst 27 X (by decide) dX9_readPost_26 rfl ?_
    refine at_bipush 29 X (by decide) (by decide) dX9_readPost_27 rfl ?_
    refine at_callV 32 X _ 10 (c10_num hG F5 B n (poU B n t P) hT_F5 1 99 (by omega)) clX10 rfl k_1 mo_X10_takeNumber w_1043 vo_X10_takeNumber.1 vo_X10_takeNumber.2 rfl rfl (crm Rt (by decide)) (Nat.le_of_ble_eq_true rfl) dX9_readPost_29 rfl ?_
    rintro _ _ ⟨rfl, F2, rfl, hT_F2, hf_F2⟩
    have hq_F2 : ∀ q, q ≠ 1 → F2 q = E q := fun q h0 => (hf_F2.1 q h0).trans (hq_F5 q h0)
    have := nu_in (B := B) (n := n) (t := (poU B n t P)) (lo := 1) (hi := 99) (by omega)
    refine at_istore_n 33 X rfl dX9_readPost_32 rfl (by decide) ?_
    refine at_aload_n 34 X rfl rfl dX9_readPost_33 rfl ?_
    refine m_getR 37 X f_X9_9 (kX9 hs) (rX9_0 hs) dX9_readPost_34 rfl ?_
    refine at_aload_n 38 X rfl rfl dX9_readPost_37 rfl ?_
    refine m_getIV 41 X ((sN P : Nat) : Int) ((congrFun (hq_F2 s (by omega)) 10).trans hS.1.N) f_X9_50 (kX9 hs) (nX9_10 hs) dX9_readPost_38 rfl ?_
    have := hP.N
    refine at_iload_n 42 X rfl rfl dX9_readPost_41 rfl ?_
    refine m_iastoreV 43 X (sN P) (by omega) (kX9_0 hs) (eX9_0 hs) (by omega) dX9_readPost_42 rfl ?_
    refine at_aload_n 44 X rfl rfl dX9_readPost_43 rfl ?_
    refine m_getR 47 X f_X9_15 (kX9 hs) (rX9_1 hs) dX9_readPost_44 rfl ?_
    refine at_aload_n 48 X rfl rfl dX9_readPost_47 rfl ?_
    refine m_getIV 51 X ((sN P : Nat) : Int) ((wr_o (by omega)).trans ((congrFun (hq_F2 s (by omega)) 10).trans hS.1.N)) f_X9_50 (kX9 hs) (nX9_10 hs) dX9_readPost_48 rfl ?_
    have := hP.N
    refine at_iload_n 52 X rfl rfl dX9_readPost_51 rfl ?_
    refine m_iastoreV 53 X (sN P) (by omega) (kX9_1 hs) (eX9_1 hs) (by omega) dX9_readPost_52 rfl ?_
    refine at_aload_n 54 X rfl rfl dX9_readPost_53 rfl ?_
    refine at_dup 55 X (show ¬ (2 : Nat) = 1 by decide) dX9_readPost_54 rfl ?_
    refine m_getIV 58 X ((sN P : Nat) : Int) ((wr_o (by omega)).trans ((wr_o (by omega)).trans ((congrFun (hq_F2 s (by omega)) 10).trans hS.1.N))) f_X9_50 (kX9 hs) (nX9_10 hs) dX9_readPost_55 rfl ?_
    have := hP.N
    refine at_iconst 59 X (by decide) dX9_readPost_58 rfl ?_
    refine at_iaddV 60 X ((sN P + 1 : Nat) : Int) (w32_v (by omega) (by omega) (by omega)) dX9_readPost_59 rfl ?_
    refine m_putI 63 X f_X9_50 fw_9_10 (kX9 hs) (nX9_10 hs) dX9_readPost_60 rfl ?_
    refine at_vret X Rt ?_ (Nat.le_refl _) (Nat.le_refl _) dX9_readPost_63
    have hfin := CSr_Po (x := (nuV B n t 0 (((sW P : Nat) : Int) - 1))) (hh := nuV B n (poU B n t P) 1 99) hS
    have hch : ∀ q, q ≠ 1 → (wr (wr (wr F2 (s + 1) (sN P) ((nuV B n t 0 (((sW P : Nat) : Int) - 1) : Nat) : Int)) (s + 2) (sN P) ((nuV B n (poU B n t P) 1 99 : Nat) : Int)) s 10 ((sN P + 1 : Nat) : Int)) q = (wr (wr (wr E (s + 1) (sN P) (((nuV B n t 0 (((sW P : Nat) : Int) - 1)) : Nat) : Int)) (s + 2) (sN P) ((nuV B n (poU B n t P) 1 99 : Nat) : Int)) s 10 ((sN P + 1 : Nat) : Int)) q := fun q hq => wr_cong (wr_cong (wr_cong (hq_F2 q hq)))
    have h1k : ∀ k, ¬ (3 ≤ k ∧ k ≤ 6) → (wr (wr (wr F2 (s + 1) (sN P) ((nuV B n t 0 (((sW P : Nat) : Int) - 1) : Nat) : Int)) (s + 2) (sN P) ((nuV B n (poU B n t P) 1 99 : Nat) : Int)) s 10 ((sN P + 1 : Nat) : Int)) 1 k = E 1 k := fun k hk => (congrFun (wr_row (by omega)) k).trans ((congrFun (wr_row (by omega)) k).trans ((congrFun (wr_row (by omega)) k).trans ((hf_F2.2 k hk).trans (hk_F5 k hk))))
    exact ⟨rfl, _, rfl, (hT_F2.fr (by simp (disch := omega) only [wr_row]) (by simp (disch := omega) only [wr_row])), hfin.fr (fun q a b => hch q (by omega)), fun q a b => (hch q a).trans (by simp (disch := omega) only [wr_row]), h1k⟩
  refine at_aload_n 13 X rfl rfl dX9_readPost_12 rfl ?_
  refine at_iload_n 14 X rfl rfl dX9_readPost_13 rfl ?_
  refine at_callV 17 X _ 9 (ct_X9_hasPost hG F1 P s hs (hS.1.fr (fun q a b => hq_F1 q (by omega))) hP (nuV B n t 0 (((sW P : Nat) : Int) - 1))) clX9 rfl (kX9 hs) mo_X9_hasPost w_1054 vo_X9_hasPost.1 vo_X9_hasPost.2 rfl rfl (crm Rt (by decide)) (Nat.le_of_ble_eq_true rfl) dX9_readPost_14 rfl ?_
  rintro _ _ ⟨rfl, rfl⟩
  refine at_if_eq 20 25 X dX9_readPost_17 rfl (by decide) (fun h17 => ?_) (fun h17 => ?_)
  · have h17 : ¬ (hasP P (nuV B n t 0 (((sW P : Nat) : Int) - 1)) = true) := ite_no.mp h17
    exact at_sub _ (by exact ⟨rfl, rfl, rfl, trivial⟩) (J25 F1 (by unfold poU; first | (rw [if_pos h17]; exact hT_F1) | (rw [if_neg h17]; exact hT_F1)) hq_F1 (fun k hk => ((hf_F1.2 k hk).trans rfl)))
  · have h17 : (hasP P (nuV B n t 0 (((sW P : Nat) : Int) - 1)) = true) := ite_yes.mp h17
    refine at_aload_n 21 X rfl rfl dX9_readPost_20 rfl ?_
    refine at_iconst 22 X (by decide) dX9_readPost_21 rfl ?_
    refine at_callV 25 X _ 10 (c10_fail hG F1 B n (nuT B n t 0 (((sW P : Nat) : Int) - 1)) hT_F1 2) clX10 rfl k_1 mo_X10_fail w_1027 vo_X10_fail.1 vo_X10_fail.2 rfl rfl (crm Rt (by decide)) (Nat.le_of_ble_eq_true rfl) dX9_readPost_22 rfl ?_
    rintro _ _ ⟨rfl, F3, rfl, hT_F3, hf_F3⟩
    have hq_F3 : ∀ q, q ≠ 1 → F3 q = E q := fun q h0 => (hf_F3.1 q h0).trans (hq_F1 q h0)
    exact at_sub _ (by exact ⟨rfl, rfl, rfl, trivial⟩) (J25 F3 (by unfold poU; first | (rw [if_pos h17]; exact hT_F3) | (rw [if_neg h17]; exact hT_F3)) hq_F3 (fun k hk => ((hf_F3.2 k hk).trans ((hf_F1.2 k hk).trans rfl))))
theorem dX9_readSun_0 : decode cX9_readSun 0 = .ok (.aload_n 1, 1) := by decide +kernel
theorem dX9_readSun_1 : decode cX9_readSun 1 = .ok (.iconst 0, 1) := by decide +kernel
theorem dX9_readSun_2 : decode cX9_readSun 2 = .ok (.bipush 23, 2) := by decide +kernel
theorem dX9_readSun_4 : decode cX9_readSun 4 = .ok (.invokevirtual 137, 3) := by decide +kernel
theorem dX9_readSun_7 : decode cX9_readSun 7 = .ok (.istore_n 2, 1) := by decide +kernel
theorem dX9_readSun_8 : decode cX9_readSun 8 = .ok (.aload_n 0, 1) := by decide +kernel
theorem dX9_readSun_9 : decode cX9_readSun 9 = .ok (.getfield 21, 3) := by decide +kernel
theorem dX9_readSun_12 : decode cX9_readSun 12 = .ok (.iload_n 2, 1) := by decide +kernel
theorem dX9_readSun_13 : decode cX9_readSun 13 = .ok (.aload_n 1, 1) := by decide +kernel
theorem dX9_readSun_14 : decode cX9_readSun 14 = .ok (.iconst 0, 1) := by decide +kernel
theorem dX9_readSun_15 : decode cX9_readSun 15 = .ok (.iconst 1, 1) := by decide +kernel
theorem dX9_readSun_16 : decode cX9_readSun 16 = .ok (.invokevirtual 137, 3) := by decide +kernel
theorem dX9_readSun_19 : decode cX9_readSun 19 = .ok (.iastore, 1) := by decide +kernel
theorem dX9_readSun_20 : decode cX9_readSun 20 = .ok (.aload_n 0, 1) := by decide +kernel
theorem dX9_readSun_21 : decode cX9_readSun 21 = .ok (.getfield 18, 3) := by decide +kernel
theorem dX9_readSun_24 : decode cX9_readSun 24 = .ok (.iload_n 2, 1) := by decide +kernel
theorem dX9_readSun_25 : decode cX9_readSun 25 = .ok (.aload_n 1, 1) := by decide +kernel
theorem dX9_readSun_26 : decode cX9_readSun 26 = .ok (.iconst 0, 1) := by decide +kernel
theorem dX9_readSun_27 : decode cX9_readSun 27 = .ok (.bipush 99, 2) := by decide +kernel
theorem dX9_readSun_29 : decode cX9_readSun 29 = .ok (.invokevirtual 137, 3) := by decide +kernel
theorem dX9_readSun_32 : decode cX9_readSun 32 = .ok (.iastore, 1) := by decide +kernel
theorem dX9_readSun_33 : decode cX9_readSun 33 = .ok (.aload_n 0, 1) := by decide +kernel
theorem dX9_readSun_34 : decode cX9_readSun 34 = .ok (.dup, 1) := by decide +kernel
theorem dX9_readSun_35 : decode cX9_readSun 35 = .ok (.getfield 53, 3) := by decide +kernel
theorem dX9_readSun_38 : decode cX9_readSun 38 = .ok (.iconst 1, 1) := by decide +kernel
theorem dX9_readSun_39 : decode cX9_readSun 39 = .ok (.iadd, 1) := by decide +kernel
theorem dX9_readSun_40 : decode cX9_readSun 40 = .ok (.putfield 53, 3) := by decide +kernel
theorem dX9_readSun_43 : decode cX9_readSun 43 = .ok (.return_, 1) := by decide +kernel
theorem ct_X9_readSun {g : Gw} (hG : GF g) {z : Bool} (E : Mm) (s : Nat) (hs : s = 68 ∨ s = 83) (P : SP) (ns : Nat) (hP : WS P) (hS : CSr E s P ns) (B : Nat → Int) (n : Nat) (t : TS) (hT_E : TP E B n t) (hns : ns < 12) : CT g yX9_readSun cX9_readSun 3 none 2 45 0 0 K2 z [mR s, mR 1] (ov E) K2 z (fun r D' => r = none ∧ ∃ E1, D' = ov E1 ∧ TP E1 B n (suC B n t P).1 ∧ CSr E1 s (suC B n t P).2 (ns + 1) ∧ DF s E E1) := by
  refine CT.mk hG (by decide +kernel) (Nat.le_of_ble_eq_true rfl) (fun κ X Rt _ ok => ?_)
  have hW40 := hP.W
  have hN10 := hP.N
  refine at_aload_n 1 X rfl rfl dX9_readSun_0 rfl ?_
  refine at_iconst 2 X (by decide) dX9_readSun_1 rfl ?_
  refine at_bipush 4 X (by decide) (by decide) dX9_readSun_2 rfl ?_
  refine at_callV 7 X _ 10 (c10_num hG E B n t hT_E 0 23 (by omega)) clX10 rfl k_1 mo_X10_takeNumber w_1043 vo_X10_takeNumber.1 vo_X10_takeNumber.2 rfl rfl (crm Rt (by decide)) (Nat.le_of_ble_eq_true rfl) dX9_readSun_4 rfl ?_
  rintro _ _ ⟨rfl, F1, rfl, hT_F1, hf_F1⟩
  have hq_F1 : ∀ q, q ≠ 1 → F1 q = E q := fun q h0 => hf_F1.1 q h0
  have := nu_in (B := B) (n := n) (t := t) (lo := 0) (hi := 23) (by omega)
  refine at_istore_n 8 X rfl dX9_readSun_7 rfl (by decide) ?_
  refine at_aload_n 9 X rfl rfl dX9_readSun_8 rfl ?_
  refine m_getR 12 X f_X9_21 (kX9 hs) (rX9_3 hs) dX9_readSun_9 rfl ?_
  refine at_iload_n 13 X rfl rfl dX9_readSun_12 rfl ?_
  refine at_aload_n 14 X rfl rfl dX9_readSun_13 rfl ?_
  refine at_iconst 15 X (by decide) dX9_readSun_14 rfl ?_
  refine at_iconst 16 X (by decide) dX9_readSun_15 rfl ?_
  refine at_callV 19 X _ 10 (c10_num hG F1 B n (nuT B n t 0 23) hT_F1 0 1 (by omega)) clX10 rfl k_1 mo_X10_takeNumber w_1043 vo_X10_takeNumber.1 vo_X10_takeNumber.2 rfl rfl (crm Rt (by decide)) (Nat.le_of_ble_eq_true rfl) dX9_readSun_16 rfl ?_
  rintro _ _ ⟨rfl, F2, rfl, hT_F2, hf_F2⟩
  have hq_F2 : ∀ q, q ≠ 1 → F2 q = E q := fun q h0 => (hf_F2.1 q h0).trans (hq_F1 q h0)
  have := nu_in (B := B) (n := n) (t := (nuT B n t 0 23)) (lo := 0) (hi := 1) (by omega)
  refine m_iastoreV 20 X (nuV B n t 0 23) (by omega) (kX9_3 hs) (eX9_3 hs) (by omega) dX9_readSun_19 rfl ?_
  refine at_aload_n 21 X rfl rfl dX9_readSun_20 rfl ?_
  refine m_getR 24 X f_X9_18 (kX9 hs) (rX9_2 hs) dX9_readSun_21 rfl ?_
  refine at_iload_n 25 X rfl rfl dX9_readSun_24 rfl ?_
  refine at_aload_n 26 X rfl rfl dX9_readSun_25 rfl ?_
  refine at_iconst 27 X (by decide) dX9_readSun_26 rfl ?_
  refine at_bipush 29 X (by decide) (by decide) dX9_readSun_27 rfl ?_
  refine at_callV 32 X _ 10 (c10_num hG (wr F2 (s + 4) (nuV B n t 0 23) ((nuV B n (nuT B n t 0 23) 0 1 : Nat) : Int)) B n (nuT B n (nuT B n t 0 23) 0 1) (hT_F2.fr (by simp (disch := omega) only [wr_row]) (by simp (disch := omega) only [wr_row])) 0 99 (by omega)) clX10 rfl k_1 mo_X10_takeNumber w_1043 vo_X10_takeNumber.1 vo_X10_takeNumber.2 rfl rfl (crm Rt (by decide)) (Nat.le_of_ble_eq_true rfl) dX9_readSun_29 rfl ?_
  rintro _ _ ⟨rfl, F3, rfl, hT_F3, hf_F3⟩
  have hq_F3 : ∀ q, q ≠ 1 → q ≠ (s + 4) → F3 q = E q := fun q h0 h1 => ((hf_F3.1 q h0).trans (wr_row h1)).trans (hq_F2 q h0)
  have := nu_in (B := B) (n := n) (t := (nuT B n (nuT B n t 0 23) 0 1)) (lo := 0) (hi := 99) (by omega)
  refine m_iastoreV 33 X (nuV B n t 0 23) (by omega) (kX9_2 hs) (eX9_2 hs) (by omega) dX9_readSun_32 rfl ?_
  refine at_aload_n 34 X rfl rfl dX9_readSun_33 rfl ?_
  refine at_dup 35 X (show ¬ (2 : Nat) = 1 by decide) dX9_readSun_34 rfl ?_
  refine m_getIV 38 X ((ns : Nat) : Int) ((wr_o (by omega)).trans ((congrFun (hq_F3 s (by omega) (by omega)) 11).trans hS.2.1)) f_X9_53 (kX9 hs) (nX9_11 hs) dX9_readSun_35 rfl ?_
  refine at_iconst 39 X (by decide) dX9_readSun_38 rfl ?_
  refine at_iaddV 40 X ((ns + 1 : Nat) : Int) (w32_v (by omega) (by omega) (by omega)) dX9_readSun_39 rfl ?_
  refine m_putI 43 X f_X9_53 fw_9_11 (kX9 hs) (nX9_11 hs) dX9_readSun_40 rfl ?_
  refine at_vret X Rt ?_ (Nat.le_refl _) (Nat.le_refl _) dX9_readSun_43
  have hfin := CSr_Su (f := nuV B n t 0 23) (w := nuV B n (nuT B n t 0 23) 0 1) (l := nuV B n (nuT B n (nuT B n t 0 23) 0 1) 0 99) hS (by omega)
  have hch : ∀ q, q ≠ 1 → (wr (wr F3 (s + 3) (nuV B n t 0 23) ((nuV B n (nuT B n (nuT B n t 0 23) 0 1) 0 99 : Nat) : Int)) s 11 ((ns + 1 : Nat) : Int)) q = (wr (wr (wr E (s + 4) (nuV B n t 0 23) ((nuV B n (nuT B n t 0 23) 0 1 : Nat) : Int)) (s + 3) (nuV B n t 0 23) ((nuV B n (nuT B n (nuT B n t 0 23) 0 1) 0 99 : Nat) : Int)) s 11 ((ns + 1 : Nat) : Int)) q := fun q hq => (wr_cong (wr_cong ((hf_F3.1 q hq).trans (wr_cong ((hf_F2.1 q hq).trans ((hf_F1.1 q hq).trans rfl))))))
  have h1k : ∀ k, ¬ (3 ≤ k ∧ k ≤ 6) → (wr (wr F3 (s + 3) (nuV B n t 0 23) ((nuV B n (nuT B n (nuT B n t 0 23) 0 1) 0 99 : Nat) : Int)) s 11 ((ns + 1 : Nat) : Int)) 1 k = E 1 k := fun k hk => ((congrFun (wr_row (by omega)) k).trans ((congrFun (wr_row (by omega)) k).trans ((hf_F3.2 k hk).trans ((congrFun (wr_row (by omega)) k).trans ((hf_F2.2 k hk).trans ((hf_F1.2 k hk).trans rfl))))))
  exact ⟨rfl, _, rfl, (hT_F3.fr (by simp (disch := omega) only [wr_row]) (by simp (disch := omega) only [wr_row])), hfin.fr (fun q a b => hch q (by omega)), fun q a b => (hch q a).trans (by simp (disch := omega) only [wr_row]), h1k⟩
theorem dX9_readMoon_0 : decode cX9_readMoon 0 = .ok (.aload_n 1, 1) := by decide +kernel
theorem dX9_readMoon_1 : decode cX9_readMoon 1 = .ok (.iconst 1, 1) := by decide +kernel
theorem dX9_readMoon_2 : decode cX9_readMoon 2 = .ok (.bipush 60, 2) := by decide +kernel
theorem dX9_readMoon_4 : decode cX9_readMoon 4 = .ok (.invokevirtual 137, 3) := by decide +kernel
theorem dX9_readMoon_7 : decode cX9_readMoon 7 = .ok (.istore_n 2, 1) := by decide +kernel
theorem dX9_readMoon_8 : decode cX9_readMoon 8 = .ok (.aload_n 0, 1) := by decide +kernel
theorem dX9_readMoon_9 : decode cX9_readMoon 9 = .ok (.getfield 24, 3) := by decide +kernel
theorem dX9_readMoon_12 : decode cX9_readMoon 12 = .ok (.aload_n 0, 1) := by decide +kernel
theorem dX9_readMoon_13 : decode cX9_readMoon 13 = .ok (.getfield 56, 3) := by decide +kernel
theorem dX9_readMoon_16 : decode cX9_readMoon 16 = .ok (.iload_n 2, 1) := by decide +kernel
theorem dX9_readMoon_17 : decode cX9_readMoon 17 = .ok (.iastore, 1) := by decide +kernel
theorem dX9_readMoon_18 : decode cX9_readMoon 18 = .ok (.aload_n 0, 1) := by decide +kernel
theorem dX9_readMoon_19 : decode cX9_readMoon 19 = .ok (.getfield 27, 3) := by decide +kernel
theorem dX9_readMoon_22 : decode cX9_readMoon 22 = .ok (.aload_n 0, 1) := by decide +kernel
theorem dX9_readMoon_23 : decode cX9_readMoon 23 = .ok (.getfield 56, 3) := by decide +kernel
theorem dX9_readMoon_26 : decode cX9_readMoon 26 = .ok (.aload_n 1, 1) := by decide +kernel
theorem dX9_readMoon_27 : decode cX9_readMoon 27 = .ok (.iconst 0, 1) := by decide +kernel
theorem dX9_readMoon_28 : decode cX9_readMoon 28 = .ok (.iload_n 2, 1) := by decide +kernel
theorem dX9_readMoon_29 : decode cX9_readMoon 29 = .ok (.iconst 1, 1) := by decide +kernel
theorem dX9_readMoon_30 : decode cX9_readMoon 30 = .ok (.isub, 1) := by decide +kernel
theorem dX9_readMoon_31 : decode cX9_readMoon 31 = .ok (.invokevirtual 137, 3) := by decide +kernel
theorem dX9_readMoon_34 : decode cX9_readMoon 34 = .ok (.iastore, 1) := by decide +kernel
theorem dX9_readMoon_35 : decode cX9_readMoon 35 = .ok (.aload_n 0, 1) := by decide +kernel
theorem dX9_readMoon_36 : decode cX9_readMoon 36 = .ok (.getfield 30, 3) := by decide +kernel
theorem dX9_readMoon_39 : decode cX9_readMoon 39 = .ok (.aload_n 0, 1) := by decide +kernel
theorem dX9_readMoon_40 : decode cX9_readMoon 40 = .ok (.getfield 56, 3) := by decide +kernel
theorem dX9_readMoon_43 : decode cX9_readMoon 43 = .ok (.aload_n 1, 1) := by decide +kernel
theorem dX9_readMoon_44 : decode cX9_readMoon 44 = .ok (.iconst 1, 1) := by decide +kernel
theorem dX9_readMoon_45 : decode cX9_readMoon 45 = .ok (.bipush 99, 2) := by decide +kernel
theorem dX9_readMoon_47 : decode cX9_readMoon 47 = .ok (.invokevirtual 137, 3) := by decide +kernel
theorem dX9_readMoon_50 : decode cX9_readMoon 50 = .ok (.iastore, 1) := by decide +kernel
theorem dX9_readMoon_51 : decode cX9_readMoon 51 = .ok (.aload_n 0, 1) := by decide +kernel
theorem dX9_readMoon_52 : decode cX9_readMoon 52 = .ok (.dup, 1) := by decide +kernel
theorem dX9_readMoon_53 : decode cX9_readMoon 53 = .ok (.getfield 56, 3) := by decide +kernel
theorem dX9_readMoon_56 : decode cX9_readMoon 56 = .ok (.iconst 1, 1) := by decide +kernel
theorem dX9_readMoon_57 : decode cX9_readMoon 57 = .ok (.iadd, 1) := by decide +kernel
theorem dX9_readMoon_58 : decode cX9_readMoon 58 = .ok (.putfield 56, 3) := by decide +kernel
theorem dX9_readMoon_61 : decode cX9_readMoon 61 = .ok (.return_, 1) := by decide +kernel
theorem ct_X9_readMoon {g : Gw} (hG : GF g) {z : Bool} (E : Mm) (s : Nat) (hs : s = 68 ∨ s = 83) (P : SP) (ns : Nat) (hP : WS P) (hS : CSr E s P ns) (B : Nat → Int) (n : Nat) (t : TS) (hT_E : TP E B n t) (hM : sM P < 3) : CT g yX9_readMoon cX9_readMoon 3 none 2 45 0 0 K2 z [mR s, mR 1] (ov E) K2 z (fun r D' => r = none ∧ ∃ E1, D' = ov E1 ∧ TP E1 B n (moC B n t P).1 ∧ CSr E1 s (moC B n t P).2 ns ∧ DF s E E1) := by
  refine CT.mk hG (by decide +kernel) (Nat.le_of_ble_eq_true rfl) (fun κ X Rt _ ok => ?_)
  have hW40 := hP.W
  have hN10 := hP.N
  refine at_aload_n 1 X rfl rfl dX9_readMoon_0 rfl ?_
  refine at_iconst 2 X (by decide) dX9_readMoon_1 rfl ?_
  refine at_bipush 4 X (by decide) (by decide) dX9_readMoon_2 rfl ?_
  refine at_callV 7 X _ 10 (c10_num hG E B n t hT_E 1 60 (by omega)) clX10 rfl k_1 mo_X10_takeNumber w_1043 vo_X10_takeNumber.1 vo_X10_takeNumber.2 rfl rfl (crm Rt (by decide)) (Nat.le_of_ble_eq_true rfl) dX9_readMoon_4 rfl ?_
  rintro _ _ ⟨rfl, F1, rfl, hT_F1, hf_F1⟩
  have hq_F1 : ∀ q, q ≠ 1 → F1 q = E q := fun q h0 => hf_F1.1 q h0
  have := nu_in (B := B) (n := n) (t := t) (lo := 1) (hi := 60) (by omega)
  refine at_istore_n 8 X rfl dX9_readMoon_7 rfl (by decide) ?_
  refine at_aload_n 9 X rfl rfl dX9_readMoon_8 rfl ?_
  refine m_getR 12 X f_X9_24 (kX9 hs) (rX9_4 hs) dX9_readMoon_9 rfl ?_
  refine at_aload_n 13 X rfl rfl dX9_readMoon_12 rfl ?_
  refine m_getIV 16 X ((sM P : Nat) : Int) ((congrFun (hq_F1 s (by omega)) 12).trans hS.1.M) f_X9_56 (kX9 hs) (nX9_12 hs) dX9_readMoon_13 rfl ?_
  have := hP.M
  refine at_iload_n 17 X rfl rfl dX9_readMoon_16 rfl ?_
  refine m_iastoreV 18 X (sM P) (by omega) (kX9_4 hs) (eX9_4 hs) (by omega) dX9_readMoon_17 rfl ?_
  refine at_aload_n 19 X rfl rfl dX9_readMoon_18 rfl ?_
  refine m_getR 22 X f_X9_27 (kX9 hs) (rX9_5 hs) dX9_readMoon_19 rfl ?_
  refine at_aload_n 23 X rfl rfl dX9_readMoon_22 rfl ?_
  refine m_getIV 26 X ((sM P : Nat) : Int) ((wr_o (by omega)).trans ((congrFun (hq_F1 s (by omega)) 12).trans hS.1.M)) f_X9_56 (kX9 hs) (nX9_12 hs) dX9_readMoon_23 rfl ?_
  have := hP.M
  refine at_aload_n 27 X rfl rfl dX9_readMoon_26 rfl ?_
  refine at_iconst 28 X (by decide) dX9_readMoon_27 rfl ?_
  refine at_iload_n 29 X rfl rfl dX9_readMoon_28 rfl ?_
  refine at_iconst 30 X (by decide) dX9_readMoon_29 rfl ?_
  refine at_isubV 31 X (((nuV B n t 1 60 : Nat) : Int) - 1) (w32_v rfl (by omega) (by omega)) dX9_readMoon_30 rfl ?_
  refine at_callV 34 X _ 10 (c10_num hG (wr F1 (s + 5) (sM P) ((nuV B n t 1 60 : Nat) : Int)) B n (nuT B n t 1 60) (hT_F1.fr (by simp (disch := omega) only [wr_row]) (by simp (disch := omega) only [wr_row])) 0 (((nuV B n t 1 60 : Nat) : Int) - 1) (by omega)) clX10 rfl k_1 mo_X10_takeNumber w_1043 vo_X10_takeNumber.1 vo_X10_takeNumber.2 rfl rfl (crm Rt (by decide)) (Nat.le_of_ble_eq_true rfl) dX9_readMoon_31 rfl ?_
  rintro _ _ ⟨rfl, F2, rfl, hT_F2, hf_F2⟩
  have hq_F2 : ∀ q, q ≠ 1 → q ≠ (s + 5) → F2 q = E q := fun q h0 h1 => ((hf_F2.1 q h0).trans (wr_row h1)).trans (hq_F1 q h0)
  have := nu_in (B := B) (n := n) (t := (nuT B n t 1 60)) (lo := 0) (hi := (((nuV B n t 1 60 : Nat) : Int) - 1)) (by omega)
  refine m_iastoreV 35 X (sM P) (by omega) (kX9_5 hs) (eX9_5 hs) (by omega) dX9_readMoon_34 rfl ?_
  refine at_aload_n 36 X rfl rfl dX9_readMoon_35 rfl ?_
  refine m_getR 39 X f_X9_30 (kX9 hs) (rX9_6 hs) dX9_readMoon_36 rfl ?_
  refine at_aload_n 40 X rfl rfl dX9_readMoon_39 rfl ?_
  refine m_getIV 43 X ((sM P : Nat) : Int) ((wr_o (by omega)).trans ((congrFun (hq_F2 s (by omega) (by omega)) 12).trans hS.1.M)) f_X9_56 (kX9 hs) (nX9_12 hs) dX9_readMoon_40 rfl ?_
  have := hP.M
  refine at_aload_n 44 X rfl rfl dX9_readMoon_43 rfl ?_
  refine at_iconst 45 X (by decide) dX9_readMoon_44 rfl ?_
  refine at_bipush 47 X (by decide) (by decide) dX9_readMoon_45 rfl ?_
  refine at_callV 50 X _ 10 (c10_num hG (wr F2 (s + 6) (sM P) ((nuV B n (nuT B n t 1 60) 0 (((nuV B n t 1 60 : Nat) : Int) - 1) : Nat) : Int)) B n (nuT B n (nuT B n t 1 60) 0 (((nuV B n t 1 60 : Nat) : Int) - 1)) (hT_F2.fr (by simp (disch := omega) only [wr_row]) (by simp (disch := omega) only [wr_row])) 1 99 (by omega)) clX10 rfl k_1 mo_X10_takeNumber w_1043 vo_X10_takeNumber.1 vo_X10_takeNumber.2 rfl rfl (crm Rt (by decide)) (Nat.le_of_ble_eq_true rfl) dX9_readMoon_47 rfl ?_
  rintro _ _ ⟨rfl, F3, rfl, hT_F3, hf_F3⟩
  have hq_F3 : ∀ q, q ≠ 1 → q ≠ (s + 5) → q ≠ (s + 6) → F3 q = E q := fun q h0 h1 h2 => ((hf_F3.1 q h0).trans (wr_row h2)).trans (hq_F2 q h0 h1)
  have := nu_in (B := B) (n := n) (t := (nuT B n (nuT B n t 1 60) 0 (((nuV B n t 1 60 : Nat) : Int) - 1))) (lo := 1) (hi := 99) (by omega)
  refine m_iastoreV 51 X (sM P) (by omega) (kX9_6 hs) (eX9_6 hs) (by omega) dX9_readMoon_50 rfl ?_
  refine at_aload_n 52 X rfl rfl dX9_readMoon_51 rfl ?_
  refine at_dup 53 X (show ¬ (2 : Nat) = 1 by decide) dX9_readMoon_52 rfl ?_
  refine m_getIV 56 X ((sM P : Nat) : Int) ((wr_o (by omega)).trans ((congrFun (hq_F3 s (by omega) (by omega) (by omega)) 12).trans hS.1.M)) f_X9_56 (kX9 hs) (nX9_12 hs) dX9_readMoon_53 rfl ?_
  have := hP.M
  refine at_iconst 57 X (by decide) dX9_readMoon_56 rfl ?_
  refine at_iaddV 58 X ((sM P + 1 : Nat) : Int) (w32_v (by omega) (by omega) (by omega)) dX9_readMoon_57 rfl ?_
  refine m_putI 61 X f_X9_56 fw_9_12 (kX9 hs) (nX9_12 hs) dX9_readMoon_58 rfl ?_
  refine at_vret X Rt ?_ (Nat.le_refl _) (Nat.le_refl _) dX9_readMoon_61
  have hfin := CSr_Mo (b := nuV B n t 1 60) (l := nuV B n (nuT B n t 1 60) 0 (((nuV B n t 1 60 : Nat) : Int) - 1)) (m := nuV B n (moU B n t) 1 99) hS
  have hch : ∀ q, q ≠ 1 → (wr (wr F3 (s + 7) (sM P) ((nuV B n (nuT B n (nuT B n t 1 60) 0 (((nuV B n t 1 60 : Nat) : Int) - 1)) 1 99 : Nat) : Int)) s 12 ((sM P + 1 : Nat) : Int)) q = (wr (wr (wr (wr E (s + 5) (sM P) ((nuV B n t 1 60 : Nat) : Int)) (s + 6) (sM P) ((nuV B n (nuT B n t 1 60) 0 (((nuV B n t 1 60 : Nat) : Int) - 1) : Nat) : Int)) (s + 7) (sM P) ((nuV B n (nuT B n (nuT B n t 1 60) 0 (((nuV B n t 1 60 : Nat) : Int) - 1)) 1 99 : Nat) : Int)) s 12 ((sM P + 1 : Nat) : Int)) q := fun q hq => (wr_cong (wr_cong ((hf_F3.1 q hq).trans (wr_cong ((hf_F2.1 q hq).trans (wr_cong ((hf_F1.1 q hq).trans rfl)))))))
  have h1k : ∀ k, ¬ (3 ≤ k ∧ k ≤ 6) → (wr (wr F3 (s + 7) (sM P) ((nuV B n (nuT B n (nuT B n t 1 60) 0 (((nuV B n t 1 60 : Nat) : Int) - 1)) 1 99 : Nat) : Int)) s 12 ((sM P + 1 : Nat) : Int)) 1 k = E 1 k := fun k hk => ((congrFun (wr_row (by omega)) k).trans ((congrFun (wr_row (by omega)) k).trans ((hf_F3.2 k hk).trans ((congrFun (wr_row (by omega)) k).trans ((hf_F2.2 k hk).trans ((congrFun (wr_row (by omega)) k).trans ((hf_F1.2 k hk).trans rfl)))))))
  exact ⟨rfl, _, rfl, (hT_F3.fr (by simp (disch := omega) only [wr_row]) (by simp (disch := omega) only [wr_row])), hfin.fr (fun q a b => hch q (by omega)), fun q a b => (hch q a).trans (by simp (disch := omega) only [wr_row]), h1k⟩
theorem dX9_readCloud_0 : decode cX9_readCloud 0 = .ok (.aload_n 1, 1) := by decide +kernel
theorem dX9_readCloud_1 : decode cX9_readCloud 1 = .ok (.iconst 0, 1) := by decide +kernel
theorem dX9_readCloud_2 : decode cX9_readCloud 2 = .ok (.bipush 23, 2) := by decide +kernel
theorem dX9_readCloud_4 : decode cX9_readCloud 4 = .ok (.invokevirtual 137, 3) := by decide +kernel
theorem dX9_readCloud_7 : decode cX9_readCloud 7 = .ok (.istore_n 2, 1) := by decide +kernel
theorem dX9_readCloud_8 : decode cX9_readCloud 8 = .ok (.aload_n 1, 1) := by decide +kernel
theorem dX9_readCloud_9 : decode cX9_readCloud 9 = .ok (.iload_n 2, 1) := by decide +kernel
theorem dX9_readCloud_10 : decode cX9_readCloud 10 = .ok (.bipush 23, 2) := by decide +kernel
theorem dX9_readCloud_12 : decode cX9_readCloud 12 = .ok (.invokevirtual 137, 3) := by decide +kernel
theorem dX9_readCloud_15 : decode cX9_readCloud 15 = .ok (.istore_n 3, 1) := by decide +kernel
theorem dX9_readCloud_16 : decode cX9_readCloud 16 = .ok (.iload_n 2, 1) := by decide +kernel
theorem dX9_readCloud_17 : decode cX9_readCloud 17 = .ok (.istore 4, 2) := by decide +kernel
theorem dX9_readCloud_19 : decode cX9_readCloud 19 = .ok (.iload 4, 2) := by decide +kernel
theorem dX9_readCloud_21 : decode cX9_readCloud 21 = .ok (.iload_n 3, 1) := by decide +kernel
theorem dX9_readCloud_22 : decode cX9_readCloud 22 = .ok (.if_icmp .gt 22, 3) := by decide +kernel
theorem dX9_readCloud_25 : decode cX9_readCloud 25 = .ok (.aload_n 0, 1) := by decide +kernel
theorem dX9_readCloud_26 : decode cX9_readCloud 26 = .ok (.dup, 1) := by decide +kernel
theorem dX9_readCloud_27 : decode cX9_readCloud 27 = .ok (.getfield 65, 3) := by decide +kernel
theorem dX9_readCloud_30 : decode cX9_readCloud 30 = .ok (.iconst 1, 1) := by decide +kernel
theorem dX9_readCloud_31 : decode cX9_readCloud 31 = .ok (.iload 4, 2) := by decide +kernel
theorem dX9_readCloud_33 : decode cX9_readCloud 33 = .ok (.ishl, 1) := by decide +kernel
theorem dX9_readCloud_34 : decode cX9_readCloud 34 = .ok (.ior, 1) := by decide +kernel
theorem dX9_readCloud_35 : decode cX9_readCloud 35 = .ok (.putfield 65, 3) := by decide +kernel
theorem dX9_readCloud_38 : decode cX9_readCloud 38 = .ok (.iinc 4 1, 3) := by decide +kernel
theorem dX9_readCloud_41 : decode cX9_readCloud 41 = .ok (.goto (-22), 3) := by decide +kernel
theorem dX9_readCloud_44 : decode cX9_readCloud 44 = .ok (.aload_n 0, 1) := by decide +kernel
theorem dX9_readCloud_45 : decode cX9_readCloud 45 = .ok (.dup, 1) := by decide +kernel
theorem dX9_readCloud_46 : decode cX9_readCloud 46 = .ok (.getfield 59, 3) := by decide +kernel
theorem dX9_readCloud_49 : decode cX9_readCloud 49 = .ok (.iconst 1, 1) := by decide +kernel
theorem dX9_readCloud_50 : decode cX9_readCloud 50 = .ok (.iadd, 1) := by decide +kernel
theorem dX9_readCloud_51 : decode cX9_readCloud 51 = .ok (.putfield 59, 3) := by decide +kernel
theorem dX9_readCloud_54 : decode cX9_readCloud 54 = .ok (.return_, 1) := by decide +kernel
theorem ct_X9_readCloud {g : Gw} (hG : GF g) {z : Bool} (E : Mm) (s : Nat) (hs : s = 68 ∨ s = 83) (P : SP) (ns : Nat) (hP : WS P) (hS : CSr E s P ns) (B : Nat → Int) (n : Nat) (t : TS) (hT_E : TP E B n t) : CT g yX9_readCloud cX9_readCloud 5 none 2 45 0 0 K2 z [mR s, mR 1] (ov E) K2 z (fun r D' => r = none ∧ ∃ E1, D' = ov E1 ∧ TP E1 B n (clC B n t P).1 ∧ CSr E1 s (clC B n t P).2 ns ∧ DF s E E1) := by
  refine CT.mk hG (by decide +kernel) (Nat.le_of_ble_eq_true rfl) (fun κ X Rt _ ok => ?_)
  have hW40 := hP.W
  have hN10 := hP.N
  refine at_aload_n 1 X rfl rfl dX9_readCloud_0 rfl ?_
  refine at_iconst 2 X (by decide) dX9_readCloud_1 rfl ?_
  refine at_bipush 4 X (by decide) (by decide) dX9_readCloud_2 rfl ?_
  refine at_callV 7 X _ 10 (c10_num hG E B n t hT_E 0 23 (by omega)) clX10 rfl k_1 mo_X10_takeNumber w_1043 vo_X10_takeNumber.1 vo_X10_takeNumber.2 rfl rfl (crm Rt (by decide)) (Nat.le_of_ble_eq_true rfl) dX9_readCloud_4 rfl ?_
  rintro _ _ ⟨rfl, F1, rfl, hT_F1, hf_F1⟩
  have hq_F1 : ∀ q, q ≠ 1 → F1 q = E q := fun q h0 => hf_F1.1 q h0
  have := nu_in (B := B) (n := n) (t := t) (lo := 0) (hi := 23) (by omega)
  refine at_istore_n 8 X rfl dX9_readCloud_7 rfl (by decide) ?_
  refine at_aload_n 9 X rfl rfl dX9_readCloud_8 rfl ?_
  refine at_iload_n 10 X rfl rfl dX9_readCloud_9 rfl ?_
  refine at_bipush 12 X (by decide) (by decide) dX9_readCloud_10 rfl ?_
  refine at_callV 15 X _ 10 (c10_num hG F1 B n (nuT B n t 0 23) hT_F1 ((nuV B n t 0 23 : Nat) : Int) 23 (by omega)) clX10 rfl k_1 mo_X10_takeNumber w_1043 vo_X10_takeNumber.1 vo_X10_takeNumber.2 rfl rfl (crm Rt (by decide)) (Nat.le_of_ble_eq_true rfl) dX9_readCloud_12 rfl ?_
  rintro _ _ ⟨rfl, F2, rfl, hT_F2, hf_F2⟩
  have hq_F2 : ∀ q, q ≠ 1 → F2 q = E q := fun q h0 => (hf_F2.1 q h0).trans (hq_F1 q h0)
  have := nu_in (B := B) (n := n) (t := (nuT B n t 0 23)) (lo := ((nuV B n t 0 23 : Nat) : Int)) (hi := 23) (by omega)
  refine at_istore_n 16 X rfl dX9_readCloud_15 rfl (by decide) ?_
  refine at_iload_n 17 X rfl rfl dX9_readCloud_16 rfl ?_
  refine at_istore 19 X dX9_readCloud_17 rfl (by decide) ?_
  have J19 : ∀ (f19 : Nat) (F : Mm) (i : Nat), 25 - i < f19 → ((nuV B n t 0 23) ≤ i) → (i ≤ 24) → (i ≤ (nuV B n (nuT B n t 0 23) ((nuV B n t 0 23 : Nat) : Int) 23) + 1) → (F s 15 = ((mk (fun h => sC P h || (decide ((nuV B n t 0 23) ≤ h) && decide (h < i))) 24 : Nat) : Int)) → (∀ k, k ≠ 15 → F s k = E s k) → (∀ q, q ≠ 1 → q ≠ s → F q = E q) → (∀ k, ¬ (3 ≤ k ∧ k ≤ 6) → F 1 k = E 1 k) → (TP F B n (clC B n t P).1) → AT g κ K2 z 0 0 19 [(0, mR s), (3, mI ((nuV B n (nuT B n t 0 23) ((nuV B n t 0 23 : Nat) : Int) 23 : Nat) : Int)), (4, mI ((i : Nat) : Int))] [] (ov F) := by
    intro f19
    induction f19 with
    | zero => intro F i hf19; omega
    | succ f19 ih19 =>
    intro F i hf19 hi1 hi2 hi3 hC hso hrow h1k hT_F
    refine at_iload 21 X rfl dX9_readCloud_19 rfl ?_
    refine at_iload_n 22 X rfl rfl dX9_readCloud_21 rfl ?_
    refine at_icmp_gt 25 44 X dX9_readCloud_22 rfl (by decide) (fun h22 => ?_) (fun h22 => ?_)
    · refine at_aload_n 45 X rfl rfl dX9_readCloud_44 rfl ?_
      refine at_dup 46 X (show ¬ (2 : Nat) = 1 by decide) dX9_readCloud_45 rfl ?_
      refine m_getIV 49 X ((sCn P : Nat) : Int) ((hso 13 (by decide)).trans hS.1.Cn) f_X9_59 (kX9 hs) (nX9_13 hs) dX9_readCloud_46 rfl ?_
      have := hP.Cn
      refine at_iconst 50 X (by decide) dX9_readCloud_49 rfl ?_
      refine at_iaddV 51 X ((sCn P + 1 : Nat) : Int) (w32_v (by omega) (by omega) (by omega)) dX9_readCloud_50 rfl ?_
      refine m_putI 54 X f_X9_59 fw_9_13 (kX9 hs) (nX9_13 hs) dX9_readCloud_51 rfl ?_
      refine at_vret X Rt ?_ (Nat.le_refl _) (Nat.le_refl _) dX9_readCloud_54
      have hfin := CSr_Cl (f := (nuV B n t 0 23)) (t := (nuV B n (nuT B n t 0 23) ((nuV B n t 0 23 : Nat) : Int) 23)) hS
      have hch : ∀ q, q ≠ 1 → (wr F s 13 ((sCn P + 1 : Nat) : Int)) q = (wr (wr E s 15 ((mk (fun h => sC P h || (decide ((nuV B n t 0 23) ≤ h) && decide (h ≤ (nuV B n (nuT B n t 0 23) ((nuV B n t 0 23 : Nat) : Int) 23)))) 24 : Nat) : Int)) s 13 ((sCn P + 1 : Nat) : Int)) q := fun q hq => by
        by_cases c : q = s
        · subst c
          refine wr_cong ?_
          funext k
          by_cases c : k = 15
          · subst c
            rw [wr_s, hC]
            exact congrArg (fun q : Nat => (q : Int)) (mk_congr (fun j hj => by by_cases c1 : (nuV B n t 0 23) ≤ j <;> by_cases c2 : j < i <;> simp [c1, c2] <;> omega))
          · rw [wr_o (Or.inr c)]; exact hso k c
        · refine wr_cong ?_
          rw [wr_row c]; exact hrow q hq c
      have h1k2 : ∀ k, ¬ (3 ≤ k ∧ k ≤ 6) → (wr F s 13 ((sCn P + 1 : Nat) : Int)) 1 k = E 1 k := fun k hk => (congrFun (wr_row (by omega)) k).trans (h1k k hk)
      exact ⟨rfl, _, rfl, (hT_F.fr (by simp (disch := omega) only [wr_row]) (by simp (disch := omega) only [wr_row])), hfin.fr (fun q a b => hch q (by omega)), fun q a b => (hch q a).trans (by simp (disch := omega) only [wr_row]), h1k2⟩
    · refine at_aload_n 26 X rfl rfl dX9_readCloud_25 rfl ?_
      refine at_dup 27 X (show ¬ (2 : Nat) = 1 by decide) dX9_readCloud_26 rfl ?_
      refine m_getIV 30 X ((mk (fun h => sC P h || (decide ((nuV B n t 0 23) ≤ h) && decide (h < i))) 24 : Nat) : Int) hC f_X9_65 (kX9 hs) (nX9_15 hs) dX9_readCloud_27 rfl ?_
      have hcm := mk24 (p := fun h => sC P h || (decide ((nuV B n t 0 23) ≤ h) && decide (h < i))) (Nat.le_refl 24)
      refine at_iconst 31 X (by decide) dX9_readCloud_30 rfl ?_
      refine at_iload 33 X rfl dX9_readCloud_31 rfl ?_
      refine at_ishlV 34 X ((2 ^ i : Nat) : Int) (ishl1 (by omega)) dX9_readCloud_33 rfl ?_
      refine at_iorV 35 X ((mk (fun h => sC P h || (decide ((nuV B n t 0 23) ≤ h) && decide (h < i + 1))) 24 : Nat) : Int) (by rw [ior_nat (by omega) (p2_31 (by omega))]; exact congrArg _ (or_mk (by omega) (fun j hj => by by_cases c : j = i <;> by_cases c2 : j < i <;> by_cases c3 : (nuV B n t 0 23) ≤ j <;> simp [c, c2, c3] <;> omega))) dX9_readCloud_34 rfl ?_
      refine m_putI 38 X f_X9_65 fw_9_15 (kX9 hs) (nX9_15 hs) dX9_readCloud_35 rfl ?_
      refine at_iincV 41 X ((i + 1 : Nat) : Int) (w32_v (by omega) (by omega) (by omega)) rfl dX9_readCloud_38 rfl (by decide) ?_
      refine at_goto 19 X dX9_readCloud_41 (by decide) ?_
      exact at_sub _ (by exact ⟨rfl, rfl, rfl, trivial⟩) (ih19 (wr F s 15 ((mk (fun h => sC P h || (decide ((nuV B n t 0 23) ≤ h) && decide (h < i + 1))) 24 : Nat) : Int)) (i + 1) (by first | omega | (simp only [] at *; omega)) (by first | omega | assumption) (by first | omega | assumption) (by first | omega | assumption) (wr_s _ _ _ _) (fun k hk => (wr_o (Or.inr hk)).trans (hso k hk)) (fun q a b => (wr_row b).trans (hrow q a b)) (fun k hk => (congrFun (wr_row (by omega)) k).trans (h1k k hk)) (hT_F.fr (by simp (disch := omega) only [wr_row]) (by simp (disch := omega) only [wr_row])))
  exact at_sub _ (by exact ⟨rfl, rfl, rfl, trivial⟩) (J19 _ F2 (nuV B n t 0 23) (Nat.lt_succ_self _) (by first | omega | assumption | rfl) (by first | omega | assumption | rfl) (by omega) ((congrFun (hq_F2 s (by omega)) 15).trans (hS.1.C.trans (congrArg (fun q : Nat => (q : Int)) (mk_congr (fun j hj => by by_cases c : j < (nuV B n t 0 23) <;> simp [c] <;> omega))))) (fun k _ => congrFun (hq_F2 s (by omega)) k) (fun q a _ => hq_F2 q a) (fun k hk => ((hf_F2.2 k hk).trans ((hf_F1.2 k hk).trans rfl))) hT_F2)
theorem lamp_mk {p : Nat → Bool} {x r : Nat} (hx : x < 40) (hr : r ≤ 9) : mk p 50 ||| sprP (2 ^ x) r = mk (fun c => p c || (decide (c ≤ x + r) && decide (x ≤ c + r))) 50 := by
  have h40 : 2 ^ x < 1099511627776 := p2_40 hx
  have e50 : (2 : Nat) ^ 50 = 1125899906842624 := by decide
  have hsp := spr_lt h40 hr
  refine mk_eq (Nat.or_lt_two_pow (mk_lt p 50) (by omega)) (fun j hj => ?_)
  rw [Nat.testBit_or, mk_in hj]
  congr 1
  rw [Bool.eq_iff_iff, spr_tb, Bool.and_eq_true, decide_eq_true_iff, decide_eq_true_iff]
  constructor
  · rintro ⟨i, h1, h2, h3⟩
    rw [Nat.testBit_two_pow, decide_eq_true_iff] at h1
    omega
  · rintro ⟨h1, h2⟩
    exact ⟨x, by rw [Nat.testBit_two_pow, decide_eq_true_iff], by omega, by omega⟩
theorem dX9_readLamp_0 : decode cX9_readLamp 0 = .ok (.aload_n 1, 1) := by decide +kernel
theorem dX9_readLamp_1 : decode cX9_readLamp 1 = .ok (.iconst 0, 1) := by decide +kernel
theorem dX9_readLamp_2 : decode cX9_readLamp 2 = .ok (.aload_n 0, 1) := by decide +kernel
theorem dX9_readLamp_3 : decode cX9_readLamp 3 = .ok (.getfield 43, 3) := by decide +kernel
theorem dX9_readLamp_6 : decode cX9_readLamp 6 = .ok (.iconst 1, 1) := by decide +kernel
theorem dX9_readLamp_7 : decode cX9_readLamp 7 = .ok (.isub, 1) := by decide +kernel
theorem dX9_readLamp_8 : decode cX9_readLamp 8 = .ok (.invokevirtual 137, 3) := by decide +kernel
theorem dX9_readLamp_11 : decode cX9_readLamp 11 = .ok (.istore_n 2, 1) := by decide +kernel
theorem dX9_readLamp_12 : decode cX9_readLamp 12 = .ok (.aload_n 0, 1) := by decide +kernel
theorem dX9_readLamp_13 : decode cX9_readLamp 13 = .ok (.dup, 1) := by decide +kernel
theorem dX9_readLamp_14 : decode cX9_readLamp 14 = .ok (.getfield 68, 3) := by decide +kernel
theorem dX9_readLamp_17 : decode cX9_readLamp 17 = .ok (.lconst 1, 1) := by decide +kernel
theorem dX9_readLamp_18 : decode cX9_readLamp 18 = .ok (.iload_n 2, 1) := by decide +kernel
theorem dX9_readLamp_19 : decode cX9_readLamp 19 = .ok (.lshl, 1) := by decide +kernel
theorem dX9_readLamp_20 : decode cX9_readLamp 20 = .ok (.aload_n 1, 1) := by decide +kernel
theorem dX9_readLamp_21 : decode cX9_readLamp 21 = .ok (.iconst 0, 1) := by decide +kernel
theorem dX9_readLamp_22 : decode cX9_readLamp 22 = .ok (.bipush 9, 2) := by decide +kernel
theorem dX9_readLamp_24 : decode cX9_readLamp 24 = .ok (.invokevirtual 137, 3) := by decide +kernel
theorem dX9_readLamp_27 : decode cX9_readLamp 27 = .ok (.invokestatic 166, 3) := by decide +kernel
theorem dX9_readLamp_30 : decode cX9_readLamp 30 = .ok (.lor, 1) := by decide +kernel
theorem dX9_readLamp_31 : decode cX9_readLamp 31 = .ok (.putfield 68, 3) := by decide +kernel
theorem dX9_readLamp_34 : decode cX9_readLamp 34 = .ok (.aload_n 0, 1) := by decide +kernel
theorem dX9_readLamp_35 : decode cX9_readLamp 35 = .ok (.dup, 1) := by decide +kernel
theorem dX9_readLamp_36 : decode cX9_readLamp 36 = .ok (.getfield 62, 3) := by decide +kernel
theorem dX9_readLamp_39 : decode cX9_readLamp 39 = .ok (.iconst 1, 1) := by decide +kernel
theorem dX9_readLamp_40 : decode cX9_readLamp 40 = .ok (.iadd, 1) := by decide +kernel
theorem dX9_readLamp_41 : decode cX9_readLamp 41 = .ok (.putfield 62, 3) := by decide +kernel
theorem dX9_readLamp_44 : decode cX9_readLamp 44 = .ok (.return_, 1) := by decide +kernel
theorem ct_X9_readLamp {g : Gw} (hG : GF g) {z : Bool} (E : Mm) (s : Nat) (hs : s = 68 ∨ s = 83) (P : SP) (ns : Nat) (hP : WS P) (hS : CSr E s P ns) (B : Nat → Int) (n : Nat) (t : TS) (hT_E : TP E B n t) : CT g yX9_readLamp cX9_readLamp 3 none 2 45 0 0 K2 z [mR s, mR 1] (ov E) K2 z (fun r D' => r = none ∧ ∃ E1, D' = ov E1 ∧ TP E1 B n (laC B n t P).1 ∧ CSr E1 s (laC B n t P).2 ns ∧ DF s E E1) := by
  refine CT.mk hG (by decide +kernel) (Nat.le_of_ble_eq_true rfl) (fun κ X Rt _ ok => ?_)
  have hW40 := hP.W
  have hN10 := hP.N
  refine at_aload_n 1 X rfl rfl dX9_readLamp_0 rfl ?_
  refine at_iconst 2 X (by decide) dX9_readLamp_1 rfl ?_
  refine at_aload_n 3 X rfl rfl dX9_readLamp_2 rfl ?_
  refine m_getIV 6 X ((sW P : Nat) : Int) hS.1.W f_X9_43 (kX9 hs) (nX9_8 hs) dX9_readLamp_3 rfl ?_
  have := hP.W
  refine at_iconst 7 X (by decide) dX9_readLamp_6 rfl ?_
  refine at_isubV 8 X (((sW P : Nat) : Int) - 1) (w32_v rfl (by omega) (by omega)) dX9_readLamp_7 rfl ?_
  refine at_callV 11 X _ 10 (c10_num hG E B n t hT_E 0 (((sW P : Nat) : Int) - 1) (by omega)) clX10 rfl k_1 mo_X10_takeNumber w_1043 vo_X10_takeNumber.1 vo_X10_takeNumber.2 rfl rfl (crm Rt (by decide)) (Nat.le_of_ble_eq_true rfl) dX9_readLamp_8 rfl ?_
  rintro _ _ ⟨rfl, F1, rfl, hT_F1, hf_F1⟩
  have hq_F1 : ∀ q, q ≠ 1 → F1 q = E q := fun q h0 => hf_F1.1 q h0
  have := nu_in (B := B) (n := n) (t := t) (lo := 0) (hi := (((sW P : Nat) : Int) - 1)) (by omega)
  refine at_istore_n 12 X rfl dX9_readLamp_11 rfl (by decide) ?_
  refine at_aload_n 13 X rfl rfl dX9_readLamp_12 rfl ?_
  refine at_dup 14 X (show ¬ (2 : Nat) = 1 by decide) dX9_readLamp_13 rfl ?_
  refine m_getLV 17 X ((mk (sLc P) 50 : Nat) : Int) ((congrFun (hq_F1 s (by omega)) 16).trans hS.1.Lc) f_X9_68 (kX9 hs) (nX9_16 hs) dX9_readLamp_14 rfl ?_
  have := mk_lt (sLc P) 50
  refine at_lconst 18 X (v := 1) (by decide) (by decide) dX9_readLamp_17 rfl ?_
  refine at_iload_n 19 X rfl rfl dX9_readLamp_18 rfl ?_
  refine at_lshlV 20 X ((2 ^ (nuV B n t 0 (((sW P : Nat) : Int) - 1)) : Nat) : Int) (lshl1 (by omega)) dX9_readLamp_19 rfl ?_
  refine at_aload_n 21 X rfl rfl dX9_readLamp_20 rfl ?_
  refine at_iconst 22 X (by decide) dX9_readLamp_21 rfl ?_
  refine at_bipush 24 X (by decide) (by decide) dX9_readLamp_22 rfl ?_
  have h240 := p2_40 (x := (nuV B n t 0 (((sW P : Nat) : Int) - 1))) (by omega)
  refine at_callV 27 X _ 10 (c10_num hG F1 B n (nuT B n t 0 (((sW P : Nat) : Int) - 1)) hT_F1 0 9 (by omega)) clX10 rfl k_1 mo_X10_takeNumber w_1043 vo_X10_takeNumber.1 vo_X10_takeNumber.2 rfl rfl (crm Rt (by decide)) (Nat.le_of_ble_eq_true rfl) dX9_readLamp_24 rfl ?_
  rintro _ _ ⟨rfl, F2, rfl, hT_F2, hf_F2⟩
  have hq_F2 : ∀ q, q ≠ 1 → F2 q = E q := fun q h0 => (hf_F2.1 q h0).trans (hq_F1 q h0)
  have := nu_in (B := B) (n := n) (t := (nuT B n t 0 (((sW P : Nat) : Int) - 1))) (lo := 0) (hi := 9) (by omega)
  refine at_callSN 30 X (ct_X11_spread hG F2 (2 ^ (nuV B n t 0 (((sW P : Nat) : Int) - 1))) (nuV B n (nuT B n t 0 (((sW P : Nat) : Int) - 1)) 0 9) (by omega) (by omega)) mo_X11_spread w_1074 so_X11_spread rfl rfl (crm Rt (by decide)) (Nat.le_of_ble_eq_true rfl) dX9_readLamp_27 rfl ?_
  rintro _ _ ⟨rfl, rfl⟩
  have := spr_lt (m := 2 ^ (nuV B n t 0 (((sW P : Nat) : Int) - 1))) (by omega) (r := nuV B n (nuT B n t 0 (((sW P : Nat) : Int) - 1)) 0 9) (by omega)
  refine at_lorV 31 X ((mk (fun c => sLc P c || (decide (c ≤ (nuV B n t 0 (((sW P : Nat) : Int) - 1)) + (nuV B n (nuT B n t 0 (((sW P : Nat) : Int) - 1)) 0 9)) && decide ((nuV B n t 0 (((sW P : Nat) : Int) - 1)) ≤ c + (nuV B n (nuT B n t 0 (((sW P : Nat) : Int) - 1)) 0 9)))) 50 : Nat) : Int) (by rw [lor_nat (by omega) (by omega)]; exact congrArg _ (lamp_mk (by omega) (by omega))) dX9_readLamp_30 rfl ?_
  refine m_putL 34 X f_X9_68 fw_9_16 (kX9 hs) (nX9_16 hs) dX9_readLamp_31 rfl ?_
  refine at_aload_n 35 X rfl rfl dX9_readLamp_34 rfl ?_
  refine at_dup 36 X (show ¬ (2 : Nat) = 1 by decide) dX9_readLamp_35 rfl ?_
  refine m_getIV 39 X ((sLn P : Nat) : Int) ((wr_o (by omega)).trans ((congrFun (hq_F2 s (by omega)) 14).trans hS.1.Ln)) f_X9_62 (kX9 hs) (nX9_14 hs) dX9_readLamp_36 rfl ?_
  have := hP.Ln
  refine at_iconst 40 X (by decide) dX9_readLamp_39 rfl ?_
  refine at_iaddV 41 X ((sLn P + 1 : Nat) : Int) (w32_v (by omega) (by omega) (by omega)) dX9_readLamp_40 rfl ?_
  refine m_putI 44 X f_X9_62 fw_9_14 (kX9 hs) (nX9_14 hs) dX9_readLamp_41 rfl ?_
  refine at_vret X Rt ?_ (Nat.le_refl _) (Nat.le_refl _) dX9_readLamp_44
  have hfin := CSr_La (x := (nuV B n t 0 (((sW P : Nat) : Int) - 1))) (r := (nuV B n (nuT B n t 0 (((sW P : Nat) : Int) - 1)) 0 9)) hS
  have hch : ∀ q, q ≠ 1 → (wr (wr F2 s 16 ((mk (fun c => sLc P c || (decide (c ≤ (nuV B n t 0 (((sW P : Nat) : Int) - 1)) + (nuV B n (nuT B n t 0 (((sW P : Nat) : Int) - 1)) 0 9)) && decide ((nuV B n t 0 (((sW P : Nat) : Int) - 1)) ≤ c + (nuV B n (nuT B n t 0 (((sW P : Nat) : Int) - 1)) 0 9)))) 50 : Nat) : Int)) s 14 ((sLn P + 1 : Nat) : Int)) q = (wr (wr E s 16 ((mk (fun c => sLc P c || (decide (c ≤ (nuV B n t 0 (((sW P : Nat) : Int) - 1)) + (nuV B n (nuT B n t 0 (((sW P : Nat) : Int) - 1)) 0 9)) && decide ((nuV B n t 0 (((sW P : Nat) : Int) - 1)) ≤ c + (nuV B n (nuT B n t 0 (((sW P : Nat) : Int) - 1)) 0 9)))) 50 : Nat) : Int)) s 14 ((sLn P + 1 : Nat) : Int)) q := fun q hq => (wr_cong (wr_cong ((hf_F2.1 q hq).trans ((hf_F1.1 q hq).trans rfl))))
  have h1k : ∀ k, ¬ (3 ≤ k ∧ k ≤ 6) → (wr (wr F2 s 16 ((mk (fun c => sLc P c || (decide (c ≤ (nuV B n t 0 (((sW P : Nat) : Int) - 1)) + (nuV B n (nuT B n t 0 (((sW P : Nat) : Int) - 1)) 0 9)) && decide ((nuV B n t 0 (((sW P : Nat) : Int) - 1)) ≤ c + (nuV B n (nuT B n t 0 (((sW P : Nat) : Int) - 1)) 0 9)))) 50 : Nat) : Int)) s 14 ((sLn P + 1 : Nat) : Int)) 1 k = E 1 k := fun k hk => ((congrFun (wr_row (by omega)) k).trans ((congrFun (wr_row (by omega)) k).trans ((hf_F2.2 k hk).trans ((hf_F1.2 k hk).trans rfl))))
  exact ⟨rfl, _, rfl, (hT_F2.fr (by simp (disch := omega) only [wr_row]) (by simp (disch := omega) only [wr_row])), hfin.fr (fun q a b => hch q (by omega)), fun q a b => (hch q a).trans (by simp (disch := omega) only [wr_row]), h1k⟩
