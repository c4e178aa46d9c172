/-! a post taken away: both ways are alike -/
theorem cnt_mk {f : Nat → Bool} {n : Nat} : ∀ {m : Nat}, n ≤ m → cntp (fun j => (mk f n).testBit j) m = cntp f n
  | 0, h => by rw [show n = 0 by omega]; rfl
  | m + 1, h => by
    by_cases c : n = m + 1
    · subst c; exact cntp_congr (fun j hj => mk_in hj)
    · rw [cntp_s, cnt_mk (m := m) (by omega), mk_out (by omega)]
      rfl
theorem cnt_pt {f : Nat → Bool} {p n : Nat} (hp : p < n) (b : Bool) : cntp (pt1 f p b) n = cntp (pt1 f p false) n + if b then 1 else 0 := by
  cases b with
  | false => rfl
  | true => exact cntp_up (b := p) (by rw [pt1_s]; decide) (pt1_s _ _ _) (fun j hj => by rw [pt1_o hj, pt1_o hj]) hp
theorem cnt_drop {f : Nat → Bool} {p : Nat} : ∀ {N : Nat}, p < N → cntp (pt1 f p (f (N - 1))) (N - 1) = cntp (pt1 f p false) N
  | 0, h => by omega
  | n + 1, h => by
    rw [Nat.add_sub_cancel, cntp_s]
    by_cases c : p = n
    · subst c
      rw [pt1_s]
      show _ = cntp (pt1 f p false) p + 0
      exact cntp_congr (fun j hj => by rw [pt1_o (by omega), pt1_o (by omega)])
    · rw [cnt_pt (by omega), pt1_o (k := p) (j := n) (by omega)]
def mxF (f : Nat → Bool) (H : Nat → Nat) : Nat → Nat := itr (fun p v => if f p = true ∧ v < H p then H p else v) 0
theorem mxF_s (f : Nat → Bool) (H : Nat → Nat) (n : Nat) : mxF f H (n + 1) = if f n = true ∧ mxF f H n < H n then H n else mxF f H n := rfl
theorem mxF_le {f : Nat → Bool} {H : Nat → Nat} {q : Nat} : ∀ {n : Nat}, q < n → f q = true → H q ≤ mxF f H n
  | 0, h, _ => by omega
  | n + 1, h, hf => by
    rw [mxF_s]
    by_cases c : q = n
    · subst c
      split
      · exact Nat.le_refl _
      · rename_i k
        exact Nat.le_of_not_lt (fun e => k ⟨hf, e⟩)
    · have := mxF_le (H := H) (n := n) (by omega) hf
      split
      · rename_i k; exact Nat.le_trans this (Nat.le_of_lt k.2)
      · exact this
theorem mxF_at {f : Nat → Bool} {H : Nat → Nat} : ∀ {n : Nat}, mxF f H n = 0 ∨ ∃ q, q < n ∧ f q = true ∧ H q = mxF f H n
  | 0 => Or.inl rfl
  | n + 1 => by
    rw [mxF_s]
    split
    · rename_i k
      exact Or.inr ⟨n, Nat.lt_succ_self n, k.1, rfl⟩
    · rcases mxF_at (f := f) (H := H) (n := n) with q | ⟨q, h1, h2, h3⟩
      · exact Or.inl q
      · exact Or.inr ⟨q, by omega, h2, h3⟩
theorem mxF_eq {f f' : Nat → Bool} {H H' : Nat → Nat} {n n' : Nat} (h : ∀ q, q < n → f q = true → ∃ r, r < n' ∧ f' r = true ∧ H' r = H q) (h' : ∀ q, q < n' → f' q = true → ∃ r, r < n ∧ f r = true ∧ H r = H' q) : mxF f H n = mxF f' H' n' := by
  apply Nat.le_antisymm
  · rcases mxF_at (f := f) (H := H) (n := n) with q | ⟨q, h1, h2, h3⟩
    · rw [q]; exact Nat.zero_le _
    · obtain ⟨r, r1, r2, r3⟩ := h q h1 h2
      rw [← h3, ← r3]; exact mxF_le r1 r2
  · rcases mxF_at (f := f') (H := H') (n := n') with q | ⟨q, h1, h2, h3⟩
    · rw [q]; exact Nat.zero_le _
    · obtain ⟨r, r1, r2, r3⟩ := h' q h1 h2
      rw [← h3, ← r3]; exact mxF_le r1 r2
theorem tal_mk {G : GP} {f : Nat → Bool} : talG G (mk f (gN G)) = mxF f (gH G) (gN G) := by
  unfold talG mxF
  exact itr_congr (fun p hp v => by rw [mk_in hp])
theorem tal_0 {G : GP} : talG G 0 = 0 := by
  unfold talG
  have key : ∀ n, itr (fun p v => if (0 : Nat).testBit p = true ∧ v < gH G p then gH G p else v) 0 n = 0 := by
    intro n
    induction n with
    | zero => rfl
    | succ n ih =>
      rw [itr_s, ih, if_neg]
      rw [Nat.zero_testBit]
      exact fun q => absurd q.1 (by decide)
  exact key _
theorem hid_isP {G : GP} {p : Nat} (hp : p < gN G) (hd : ∀ q, q < gN G → gX G q = gX G p → q = p) {c : Nat} (hc : c < 100) : isP (hidP G p) c = (isP G c && !decide (c = gX G p)) := by
  rw [Bool.eq_iff_iff, isP_iff, Bool.and_eq_true, isP_iff]
  simp only [Bool.not_eq_true', decide_eq_false_iff_not]
  constructor
  · rintro ⟨q, h1, h2⟩
    have h2' : pt1 (gX G) p 100 q = c := h2
    by_cases k : q = p
    · rw [k, pt1_s] at h2'; omega
    · rw [pt1_o k] at h2'
      exact ⟨⟨q, h1, h2'⟩, fun e => k (hd q h1 (h2'.trans e))⟩
  · rintro ⟨⟨q, h1, h2⟩, h3⟩
    have hqp : ¬ q = p := fun e => h3 (by rw [← h2, e])
    refine ⟨q, h1, ?_⟩
    show pt1 (gX G) p 100 q = c
    rw [pt1_o hqp]; exact h2
theorem drop_sh {G : GP} {p k q c : Nat} : shG (dropP G p) k q c = pt1 (fun q => shG G k q c) p (shG G k (gN G - 1) c) q := by
  show shB (gW G) (pt1 (gX G) p (gX G (gN G - 1)) q) (pt1 (gH G) p (gH G (gN G - 1)) q * gT' G k / 10) (gR G k) c = _
  by_cases e : q = p
  · rw [e, pt1_s, pt1_s, pt1_s]; rfl
  · rw [pt1_o e, pt1_o e, pt1_o e]; rfl
theorem hid_sh {G : GP} {p k q c : Nat} (hc : c < 100) : shG (hidP G p) k q c = pt1 (fun q => shG G k q c) p false q := by
  show shB (gW G) (pt1 (gX G) p 100 q) (pt1 (gH G) p 0 q * gT' G k / 10) (gR G k) c = _
  by_cases e : q = p
  · rw [e, pt1_s, pt1_s, pt1_s, Nat.zero_mul]
    unfold shB
    split
    · rw [decide_eq_false (show ¬ 100 < c by omega)]; rfl
    · rw [decide_eq_false (show ¬ 100 ≤ c + 0 / 10 by omega), Bool.and_false]
  · rw [pt1_o e, pt1_o e, pt1_o e]; rfl
theorem hid_bOn {G : GP} {p : Nat} (hw : WG G) (hp : p < gN G) (hd : ∀ q, q < gN G → gX G q = gX G p → q = p) {h c : Nat} (hc : c < gW G) : bOn (dropP G p) h c = bOn (hidP G p) h c := by
  have hW := hw.W
  have hN := hw.N
  have e1 : isP (dropP G p) c = isP (hidP G p) c := by rw [isP_drop hp hd, hid_isP hp hd (by omega)]
  show bIf (dropP G p) (gLm G c) h c = bIf (hidP G p) (gLm G c) h c
  unfold bIf
  rw [e1]
  by_cases k : isP (hidP G p) c = true
  · rw [if_pos k, if_pos k]
  · rw [if_neg k, if_neg k]
    show borP (gLw G) _ _ _ _ = borP (gLw G) _ _ _ _
    have hs1 : shd (dropP G p) (gLm G c) h c = if lcl (gC G) h < 0 ∨ (gC G h = true ∧ ¬ gLm G c = true) then 0 else mk (fun q => shG (dropP G p) (lcl (gC G) h).toNat q c) (gN G - 1) := rfl
    have hs2 : shd (hidP G p) (gLm G c) h c = if lcl (gC G) h < 0 ∨ (gC G h = true ∧ ¬ gLm G c = true) then 0 else mk (fun q => shG (hidP G p) (lcl (gC G) h).toNat q c) (gN G) := rfl
    rw [hs1, hs2]
    by_cases k2 : lcl (gC G) h < 0 ∨ (gC G h = true ∧ ¬ gLm G c = true)
    · rw [if_pos k2, if_pos k2, tal_0, tal_0]
    · rw [if_neg k2, if_neg k2]
      have c1 : cntp (fun j => (mk (fun q => shG (dropP G p) (lcl (gC G) h).toNat q c) (gN G - 1)).testBit j) 11 = cntp (fun j => (mk (fun q => shG (hidP G p) (lcl (gC G) h).toNat q c) (gN G)).testBit j) 11 := by
        rw [cnt_mk (by omega), cnt_mk hN]
        rw [cntp_congr (fun j _ => drop_sh (G := G) (p := p) (k := (lcl (gC G) h).toNat) (q := j) (c := c)), cntp_congr (fun j _ => hid_sh (G := G) (p := p) (k := (lcl (gC G) h).toNat) (q := j) (c := c) (by omega))]
        exact cnt_drop (f := fun q => shG G (lcl (gC G) h).toNat q c) hp
      have c2 : talG (dropP G p) (mk (fun q => shG (dropP G p) (lcl (gC G) h).toNat q c) (gN G - 1)) = talG (hidP G p) (mk (fun q => shG (hidP G p) (lcl (gC G) h).toNat q c) (gN G)) := by
        have t1 := tal_mk (G := dropP G p) (f := fun q => shG (dropP G p) (lcl (gC G) h).toNat q c)
        have t2 := tal_mk (G := hidP G p) (f := fun q => shG (hidP G p) (lcl (gC G) h).toNat q c)
        refine t1.trans (Eq.trans ?_ t2.symm)
        refine mxF_eq (fun q h1 h2 => ?_) (fun q h1 h2 => ?_)
        · have h1' : q < gN G - 1 := h1
          have h2' : shG (dropP G p) (lcl (gC G) h).toNat q c = true := h2
          rw [drop_sh] at h2'
          by_cases e : q = p
          · rw [e, pt1_s] at h2'
            refine ⟨gN G - 1, show gN G - 1 < gN G by omega, ?_, ?_⟩
            · show shG (hidP G p) (lcl (gC G) h).toNat (gN G - 1) c = true
              rw [hid_sh (by omega), pt1_o (by omega)]; exact h2'
            · show pt1 (gH G) p 0 (gN G - 1) = pt1 (gH G) p (gH G (gN G - 1)) q
              rw [e, pt1_s, pt1_o (by omega)]
          · rw [pt1_o e] at h2'
            refine ⟨q, show q < gN G by omega, ?_, ?_⟩
            · show shG (hidP G p) (lcl (gC G) h).toNat q c = true
              rw [hid_sh (by omega), pt1_o e]; exact h2'
            · show pt1 (gH G) p 0 q = pt1 (gH G) p (gH G (gN G - 1)) q
              rw [pt1_o e, pt1_o e]
        · have h1' : q < gN G := h1
          have h2' : shG (hidP G p) (lcl (gC G) h).toNat q c = true := h2
          rw [hid_sh (by omega)] at h2'
          have e : ¬ q = p := fun e => by rw [e, pt1_s] at h2'; cases h2'
          rw [pt1_o e] at h2'
          by_cases e2 : q = gN G - 1
          · refine ⟨p, show p < gN G - 1 by omega, ?_, ?_⟩
            · show shG (dropP G p) (lcl (gC G) h).toNat p c = true
              rw [drop_sh, pt1_s, ← e2]; exact h2'
            · show pt1 (gH G) p (gH G (gN G - 1)) p = pt1 (gH G) p 0 q
              rw [pt1_s, pt1_o e, e2]
          · refine ⟨q, show q < gN G - 1 by omega, ?_, ?_⟩
            · show shG (dropP G p) (lcl (gC G) h).toNat q c = true
              rw [drop_sh, pt1_o e]; exact h2'
            · show pt1 (gH G) p (gH G (gN G - 1)) q = pt1 (gH G) p 0 q
              rw [pt1_o e, pt1_o e]
      rw [c1, c2]
theorem hid_dyP {G : GP} {B : BM} {T : LN} {p : Nat} (hw : WG G) (hW : WB (gW G) B) (hT : WT (gW G) B T) (hp : p < gN G) (hd : ∀ q, q < gN G → gX G q = gX G p → q = p) : dyP (dropP G p) B T 24 = dyP (hidP G p) B T 24 :=
  (dyP_alike (fun _ _ _ hc => hid_bOn hw hp hd (WT.ec hW hT hc)) (Nat.le_refl 24)).1
theorem hidP_WR {G : GP} {p : Nat} (h : WG G) : WR (hidP G p) := by
  refine ⟨h.W, h.N, fun q hq => ?_, fun t ht => h.T ht, h.Lw⟩
  have hq' : q < gN G := hq
  show pt1 (gH G) p 0 q ≤ 99 ∧ (pt1 (gX G) p 100 q < gW G ∨ (100 ≤ pt1 (gX G) p 100 q ∧ pt1 (gH G) p 0 q = 0))
  by_cases k : q = p
  · rw [k, pt1_s, pt1_s]; exact ⟨by decide, Or.inr ⟨Nat.le_refl _, rfl⟩⟩
  · rw [pt1_o k, pt1_o k]; exact ⟨h.H hq', Or.inl (h.X hq')⟩
