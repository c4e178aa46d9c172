/-! the reference reads a law -/
/-- the steps said so far -/
def RLr (E : Mm) (L : LW) : Prop := E 125 29 = (L.1 : Int) ∧ ∀ i, i < L.1 → E (416 + i) 0 = rcode (L.2.1 i) ∧ (L.2.1 i = 0 → E (416 + i) 1 = L.2.2 i) ∧ (1 ≤ L.2.1 i → L.2.1 i < 5 → E (416 + i) 1 = L.2.1 i - 1)
theorem RLr.fr {E E1 : Mm} {L : LW} (h : RLr E L) (hf : ∀ q, q ≠ 125 → E1 q = E q) (h29 : E1 125 29 = E 125 29) : RLr E1 L :=
  ⟨h29.trans h.1, fun i hi => by rw [hf (416 + i) (by omega)]; exact h.2 i hi⟩
/-- only what the reading of a law touches has changed -/
def RFl (E E1 : Mm) : Prop := (∀ q, ¬ (q = 125 ∨ (416 ≤ q ∧ q ≤ 575)) → E1 q = E q) ∧ ∀ k, ¬ ((4 ≤ k ∧ k ≤ 6) ∨ k = 8 ∨ k = 29) → E1 125 k = E 125 k
theorem RFl.rf {E : Mm} : RFl E E := ⟨fun _ _ => rfl, fun _ _ => rfl⟩
theorem RFl.tr {E E1 E2 : Mm} (h : RFl E E1) (h2 : RFl E1 E2) : RFl E E2 := ⟨fun q a => (h2.1 q a).trans (h.1 q a), fun k hk => (h2.2 k hk).trans (h.2 k hk)⟩
theorem RTf.fl {E E1 : Mm} (h : RTf E E1) : RFl E E1 := ⟨fun q a => h.1 q (by omega), fun k hk => h.2 k (by omega)⟩
/-- a reader of the law's text: the tape, the law so far, how many are open -/
def RLP (B : Nat → Int) (n : Nat) (op : Int) (E E1 : Mm) (s : Lws) : Prop := RTp E1 B n s.1 ∧ OKt n s.1 ∧ (s.1.2.2.1 = 0 → s.2.1 ≤ s.1.1 ∧ RLr E1 s.2) ∧ E1 125 8 = op ∧ RFl E E1
theorem RLP.tape {B : Nat → Int} {n : Nat} {op : Int} {E S S1 : Mm} {t t' : TS} {L : LW} (h : RLP B n op E S (t, L)) (hP : RTp S1 B n t') (hf : RTf S S1) (hO : OKt n t') (h0 : t'.2.2.1 = 0 → t.2.2.1 = 0 ∧ t.1 ≤ t'.1) : RLP B n op E S1 (t', L) :=
  ⟨hP, hO, fun q => by
    obtain ⟨q1, q2⟩ := h0 q
    obtain ⟨q3, q4⟩ := h.2.2.1 q1
    exact ⟨Nat.le_trans q3 q2, q4.fr hf.1 (hf.2 29 (by omega))⟩, (hf.2 8 (by omega)).trans h.2.2.2.1, h.2.2.2.2.tr hf.fl⟩
theorem RLP.eq {B : Nat → Int} {n : Nat} {op : Int} {E S : Mm} {s s' : Lws} (h : RLP B n op E S s) (e : s = s') : RLP B n op E S s' := e ▸ h
/-- a fault's tape is told by the fault alone -/
theorem RLP.bad {B : Nat → Int} {n : Nat} {op : Int} {E S : Mm} {s : Lws} {s' : Lws} (h : RLP B n op E S s) (hb : ¬ s.1.2.2.1 = 0) (hO : OKt n s'.1) (e : s'.1.2.2 = s.1.2.2) : RLP B n op E S s' := by
  obtain ⟨⟨a, hA, h5, h6, hs⟩, h2, h3, h4, h7⟩ := h
  exact ⟨⟨a, hA, by rw [e]; exact h5, by rw [e]; exact h6, fun q => absurd (by rw [e] at q; exact q) hb⟩, hO, fun q => absurd (by rw [e] at q; exact q) hb, h4, h7⟩
theorem ts_fw {B : Nat → Int} {n : Nat} {t : TS} {c : Int} (hO : OKt n t) (h : (tsT B n t c).2.2.1 = 0) : t.2.2.1 = 0 ∧ t.1 ≤ (tsT B n t c).1 := by
  have q := ts_ok h
  have := sk_in B hO.2
  exact ⟨q.1, by omega⟩
theorem go_fw {B : Nat → Int} {n : Nat} {t : TS} (hO : OKt n t) (h : (goT B n t).2.2.1 = 0) : t.2.2.1 = 0 ∧ t.1 ≤ (goT B n t).1 := by
  rw [go_fk] at h
  refine ⟨h, ?_⟩
  unfold goT
  rw [if_pos h]
  exact (sk_in B hO.2).1
theorem tw_fw {B : Nat → Int} {n : Nat} {t : TS} (hO : OKt n t) (h : (twT B n t).2.2.1 = 0) : t.2.2.1 = 0 ∧ t.1 ≤ (twT B n t).1 := by
  rw [tw_fk] at h
  refine ⟨h, ?_⟩
  have e : twT B n t = (wdE B n (sk B n t.1), sk B n t.1, t.2.2) := if_pos h
  rw [e]
  have h1 := sk_in B hO.2
  have h2 := wd_in B h1.2
  show t.1 ≤ wdE B n (sk B n t.1)
  omega
theorem nu_fw {B : Nat → Int} {n : Nat} {t : TS} {lo hi : Int} (hO : OKt n t) (h : (nuT B n t lo hi).2.2.1 = 0) : t.2.2.1 = 0 ∧ t.1 ≤ (nuT B n t lo hi).1 := by
  have q := nu_ok h
  have := sk_in B hO.2
  exact ⟨q.1, by omega⟩
/-- behind a sign and what a reader reads there is room for one step more -/
theorem GW.step {B : Nat → Int} {n : Nat} {U : Lws → Lws} (hu : GW n U) {t : TS} {L : LW} {c : Int} (hO : OKt n t) (hs : t.2.2.1 = 0 → L.1 ≤ t.1) (h : (U (tsT B n t c, L)).1.2.2.1 = 0) : t.2.2.1 = 0 ∧ (U (tsT B n t c, L)).2.1 + 1 ≤ (U (tsT B n t c, L)).1.1 ∧ t.1 + 2 ≤ (U (tsT B n t c, L)).1.1 ∧ (U (tsT B n t c, L)).1.1 ≤ n := by
  obtain ⟨u1, u2, u3⟩ := hu (tsT B n t c, L) (tsT_ok hO)
  have q := ts_ok (u2 h)
  have hk := sk_in B hO.2
  have hl := hs q.1
  obtain ⟨g1, g2, g3⟩ := u3 (by show L.1 ≤ (tsT B n t c).1; omega) h
  have g1' : (tsT B n t c).1 < (U (tsT B n t c, L)).1.1 := g1
  have g2' : (U (tsT B n t c, L)).2.1 + (tsT B n t c).1 ≤ L.1 + (U (tsT B n t c, L)).1.1 := g2
  have g3' : (U (tsT B n t c, L)).1.1 ≤ n := u1.2
  exact ⟨q.1, by omega, by omega, g3'⟩
theorem addW_1 {L : LW} {w v : Int} (h : L.1 < 150) : (addW L w v).1 = L.1 + 1 := by unfold addW; rw [if_pos h]
theorem dX12_says_0 : decode cX12_says 0 = .ok (.aload_n 0, 1) := by decide +kernel
theorem dX12_says_1 : decode cX12_says 1 = .ok (.getfield 168, 3) := by decide +kernel
theorem dX12_says_4 : decode cX12_says 4 = .ok (.ifCond .eq 4, 3) := by decide +kernel
theorem dX12_says_7 : decode cX12_says 7 = .ok (.return_, 1) := by decide +kernel
theorem dX12_says_8 : decode cX12_says 8 = .ok (.aload_n 0, 1) := by decide +kernel
theorem dX12_says_9 : decode cX12_says 9 = .ok (.getfield 76, 3) := by decide +kernel
theorem dX12_says_12 : decode cX12_says 12 = .ok (.aload_n 0, 1) := by decide +kernel
theorem dX12_says_13 : decode cX12_says 13 = .ok (.getfield 276, 3) := by decide +kernel
theorem dX12_says_16 : decode cX12_says 16 = .ok (.aaload, 1) := by decide +kernel
theorem dX12_says_17 : decode cX12_says 17 = .ok (.iconst 0, 1) := by decide +kernel
theorem dX12_says_18 : decode cX12_says 18 = .ok (.iload_n 1, 1) := by decide +kernel
theorem dX12_says_19 : decode cX12_says 19 = .ok (.iastore, 1) := by decide +kernel
theorem dX12_says_20 : decode cX12_says 20 = .ok (.aload_n 0, 1) := by decide +kernel
theorem dX12_says_21 : decode cX12_says 21 = .ok (.getfield 76, 3) := by decide +kernel
theorem dX12_says_24 : decode cX12_says 24 = .ok (.aload_n 0, 1) := by decide +kernel
theorem dX12_says_25 : decode cX12_says 25 = .ok (.getfield 276, 3) := by decide +kernel
theorem dX12_says_28 : decode cX12_says 28 = .ok (.aaload, 1) := by decide +kernel
theorem dX12_says_29 : decode cX12_says 29 = .ok (.iconst 1, 1) := by decide +kernel
theorem dX12_says_30 : decode cX12_says 30 = .ok (.iload_n 2, 1) := by decide +kernel
theorem dX12_says_31 : decode cX12_says 31 = .ok (.iastore, 1) := by decide +kernel
theorem dX12_says_32 : decode cX12_says 32 = .ok (.aload_n 0, 1) := by decide +kernel
theorem dX12_says_33 : decode cX12_says 33 = .ok (.dup, 1) := by decide +kernel
theorem dX12_says_34 : decode cX12_says 34 = .ok (.getfield 276, 3) := by decide +kernel
theorem dX12_says_37 : decode cX12_says 37 = .ok (.iconst 1, 1) := by decide +kernel
theorem dX12_says_38 : decode cX12_says 38 = .ok (.iadd, 1) := by decide +kernel
theorem dX12_says_39 : decode cX12_says 39 = .ok (.putfield 276, 3) := by decide +kernel
theorem dX12_says_42 : decode cX12_says 42 = .ok (.return_, 1) := by decide +kernel
theorem ct_X12_says {g : Gw} (hG : GF g) {z : Bool} (E : Mm) (m : Nat) (hm : E 125 5 = 0 → E 125 29 = ((m : Nat) : Int) ∧ m < 160) (w v : Int) : CT g yX12_says cX12_says 3 none 0 0 0 0 K2 z [mR 125, mI w, mI v] (ov E) K2 z (fun r D' => r = none ∧ D' = ov (if E 125 5 = 0 then wr (wr (wr E (416 + m) 0 w) (416 + m) 1 v) 125 29 ((m + 1 : Nat) : Int) else E)) := by
  refine CT.mk hG (by decide +kernel) (Nat.le_of_ble_eq_true rfl) (fun κ X Rt _ ok => ?_)
  refine at_aload_n 1 X rfl rfl dX12_says_0 rfl ?_
  refine m_getIV 4 X (E 125 5) rfl f_X12_168 k_125 rn_125_5 dX12_says_1 rfl ?_
  refine at_if_eq 7 8 X dX12_says_4 rfl (by decide) (fun h4 => ?_) (fun h4 => ?_)
  · have h4 : E 125 5 = 0 := by first | exact h4 | exact Decidable.byContradiction h4
    have hm160 := (hm h4).2
    refine at_aload_n 9 X rfl rfl dX12_says_8 rfl ?_
    refine m_getR 12 X f_X12_76 k_125 r_125_32 dX12_says_9 rfl ?_
    refine at_aload_n 13 X rfl rfl dX12_says_12 rfl ?_
    refine m_getIV 16 X ((m : Nat) : Int) (hm h4).1 f_X12_276 k_125 rn_125_29 dX12_says_13 rfl ?_
    refine m_aaloadV 17 X m (by omega) k_415 (by decide) (by omega) (rr_415 _ (by omega)) dX12_says_16 rfl ?_
    refine at_iconst 18 X (by decide) dX12_says_17 rfl ?_
    refine at_iload_n 19 X rfl rfl dX12_says_18 rfl ?_
    refine m_iastoreV 20 X 0 (by omega) (kr_415 _ (by omega)) (er_415 _ (by omega)) (by omega) dX12_says_19 rfl ?_
    refine at_aload_n 21 X rfl rfl dX12_says_20 rfl ?_
    refine m_getR 24 X f_X12_76 k_125 r_125_32 dX12_says_21 rfl ?_
    refine at_aload_n 25 X rfl rfl dX12_says_24 rfl ?_
    refine m_getIV 28 X ((m : Nat) : Int) ((wr_o (by omega)).trans (hm h4).1) f_X12_276 k_125 rn_125_29 dX12_says_25 rfl ?_
    refine m_aaloadV 29 X m (by omega) k_415 (by decide) (by omega) (rr_415 _ (by omega)) dX12_says_28 rfl ?_
    refine at_iconst 30 X (by decide) dX12_says_29 rfl ?_
    refine at_iload_n 31 X rfl rfl dX12_says_30 rfl ?_
    refine m_iastoreV 32 X 1 (by omega) (kr_415 _ (by omega)) (er_415 _ (by omega)) (by omega) dX12_says_31 rfl ?_
    refine at_aload_n 33 X rfl rfl dX12_says_32 rfl ?_
    refine at_dup 34 X (show ¬ (2 : Nat) = 1 by decide) dX12_says_33 rfl ?_
    refine m_getIV 37 X ((m : Nat) : Int) ((wr_o (by omega)).trans ((wr_o (by omega)).trans (hm h4).1)) f_X12_276 k_125 rn_125_29 dX12_says_34 rfl ?_
    refine at_iconst 38 X (by decide) dX12_says_37 rfl ?_
    refine at_iaddV 39 X ((m + 1 : Nat) : Int) (w32_v (by omega) (by omega) (by omega)) dX12_says_38 rfl ?_
    refine m_putI 42 X f_X12_276 fw_12_29 k_125 rn_125_29 dX12_says_39 rfl ?_
    refine at_vret X Rt ?_ (Nat.le_refl _) (Nat.le_refl _) dX12_says_42
    exact ⟨rfl, by rw [if_pos h4]⟩
  · have h4 : ¬ E 125 5 = 0 := h4
    refine at_vret X Rt ?_ (Nat.le_refl _) (Nat.le_refl _) dX12_says_7
    exact ⟨rfl, by rw [if_neg h4]⟩
theorem c12_says {g : Gw} (hG : GF g) {z : Bool} (B : Nat → Int) (n : Nat) (hn : n ≤ 150) (op : Int) (E S : Mm) (t : TS) (L : LW) (hS : RLP B n op E S (t, L)) (w v x c : Int) (hw : 0 ≤ w ∧ w ≤ 10) (hc : c = rcode w) (h1 : w = 0 → t.2.2.1 = 0 → x = v) (h2 : 1 ≤ w → w < 5 → x = w - 1) (hl : t.2.2.1 = 0 → L.1 + 1 ≤ t.1) : CT g yX12_says cX12_says 3 none 0 0 0 0 K2 z [mR 125, mI c, mI x] (ov S) K2 z (fun r D' => r = none ∧ ∃ E1, D' = ov E1 ∧ RLP B n op E E1 (t, addW L w v)) := by
  have hk : S 125 5 = t.2.2.1 := rfk hS.1
  have hO := hS.2.1
  have hO2 : t.1 ≤ n := hO.2
  refine (ct_X12_says hG (z := z) S L.1 (fun q => ?_) c x).imp (fun r D' q => ?_)
  · have q0 : t.2.2.1 = 0 := hk.symm.trans q
    have := hl q0
    exact ⟨(hS.2.2.1 q0).2.1, by omega⟩
  · obtain ⟨q1, q2⟩ := q
    refine ⟨q1, ?_⟩
    by_cases h0 : t.2.2.1 = 0
    · rw [if_pos (hk.trans h0)] at q2
      have hl0 := hl h0
      have hr := (hS.2.2.1 h0).2
      have ha : addW L w v = (L.1 + 1, updf L.2.1 L.1 w, updf L.2.2 L.1 v) := if_pos (by omega)
      refine ⟨_, q2, ?_, hO, fun _ => ⟨?_, ?_, fun i hi => ?_⟩, ?_, ?_⟩
      · exact hS.1.w (fun k hk => by simp (disch := omega) only [wr_o]) (by simp (disch := omega) only [wr_row])
      · show (addW L w v).1 ≤ t.1
        rw [ha]; exact hl0
      · show _ = (((addW L w v).1 : Nat) : Int)
        rw [ha, wr_s]
      · show _ = rcode ((addW L w v).2.1 i) ∧ ((addW L w v).2.1 i = 0 → _ = (addW L w v).2.2 i) ∧ (1 ≤ (addW L w v).2.1 i → (addW L w v).2.1 i < 5 → _ = (addW L w v).2.1 i - 1)
        have hi' : i < (addW L w v).1 := hi
        rw [ha] at hi' ⊢
        have hi'' : i < L.1 + 1 := hi'
        show _ = rcode (updf L.2.1 L.1 w i) ∧ (updf L.2.1 L.1 w i = 0 → _ = updf L.2.2 L.1 v i) ∧ (1 ≤ updf L.2.1 L.1 w i → updf L.2.1 L.1 w i < 5 → _ = updf L.2.1 L.1 w i - 1)
        by_cases e : i = L.1
        · subst e
          rw [updf_s, updf_s]
          exact ⟨by simp (disch := omega) only [wr_o, wr_s]; exact hc, fun q => by simp (disch := omega) only [wr_o, wr_s]; exact h1 q h0, fun a b => by simp (disch := omega) only [wr_o, wr_s]; exact h2 a b⟩
        · rw [updf_o e, updf_o e]
          have := hr.2 i (show i < L.1 by omega)
          exact ⟨by simp (disch := omega) only [wr_o]; exact this.1, fun q => by simp (disch := omega) only [wr_o]; exact this.2.1 q, fun a b => by simp (disch := omega) only [wr_o]; exact this.2.2 a b⟩
      · simp (disch := omega) only [wr_o]; exact hS.2.2.2.1
      · refine hS.2.2.2.2.tr ⟨fun q hq => ?_, fun k hk => ?_⟩
        · simp (disch := omega) only [wr_row]
        · simp (disch := omega) only [wr_o]
    · rw [if_neg (fun q => h0 (hk.symm.trans q))] at q2
      exact ⟨_, q2, hS.1, hO, fun q => absurd q h0, hS.2.2.2.1, hS.2.2.2.2⟩
theorem dX12_product_0 : decode cX12_product 0 = .ok (.aload_n 0, 1) := by decide +kernel
theorem dX12_product_1 : decode cX12_product 1 = .ok (.invokevirtual 288, 3) := by decide +kernel
theorem dX12_product_4 : decode cX12_product 4 = .ok (.aload_n 0, 1) := by decide +kernel
theorem dX12_product_5 : decode cX12_product 5 = .ok (.getfield 168, 3) := by decide +kernel
theorem dX12_product_8 : decode cX12_product 8 = .ok (.ifCond .ne 50, 3) := by decide +kernel
theorem dX12_product_11 : decode cX12_product 11 = .ok (.aload_n 0, 1) := by decide +kernel
theorem dX12_product_12 : decode cX12_product 12 = .ok (.bipush 42, 2) := by decide +kernel
theorem dX12_product_14 : decode cX12_product 14 = .ok (.invokevirtual 282, 3) := by decide +kernel
theorem dX12_product_17 : decode cX12_product 17 = .ok (.ifCond .eq 7, 3) := by decide +kernel
theorem dX12_product_20 : decode cX12_product 20 = .ok (.iconst 4, 1) := by decide +kernel
theorem dX12_product_21 : decode cX12_product 21 = .ok (.goto 17, 3) := by decide +kernel
theorem dX12_product_24 : decode cX12_product 24 = .ok (.aload_n 0, 1) := by decide +kernel
theorem dX12_product_25 : decode cX12_product 25 = .ok (.bipush 47, 2) := by decide +kernel
theorem dX12_product_27 : decode cX12_product 27 = .ok (.invokevirtual 282, 3) := by decide +kernel
theorem dX12_product_30 : decode cX12_product 30 = .ok (.ifCond .eq 7, 3) := by decide +kernel
theorem dX12_product_33 : decode cX12_product 33 = .ok (.iconst 5, 1) := by decide +kernel
theorem dX12_product_34 : decode cX12_product 34 = .ok (.goto 4, 3) := by decide +kernel
theorem dX12_product_37 : decode cX12_product 37 = .ok (.iconst (-1), 1) := by decide +kernel
theorem dX12_product_38 : decode cX12_product 38 = .ok (.istore_n 1, 1) := by decide +kernel
theorem dX12_product_39 : decode cX12_product 39 = .ok (.iload_n 1, 1) := by decide +kernel
theorem dX12_product_40 : decode cX12_product 40 = .ok (.iconst (-1), 1) := by decide +kernel
theorem dX12_product_41 : decode cX12_product 41 = .ok (.if_icmp .ne 4, 3) := by decide +kernel
theorem dX12_product_44 : decode cX12_product 44 = .ok (.return_, 1) := by decide +kernel
theorem dX12_product_45 : decode cX12_product 45 = .ok (.aload_n 0, 1) := by decide +kernel
theorem dX12_product_46 : decode cX12_product 46 = .ok (.invokevirtual 288, 3) := by decide +kernel
theorem dX12_product_49 : decode cX12_product 49 = .ok (.aload_n 0, 1) := by decide +kernel
theorem dX12_product_50 : decode cX12_product 50 = .ok (.iload_n 1, 1) := by decide +kernel
theorem dX12_product_51 : decode cX12_product 51 = .ok (.iconst 0, 1) := by decide +kernel
theorem dX12_product_52 : decode cX12_product 52 = .ok (.invokevirtual 285, 3) := by decide +kernel
theorem dX12_product_55 : decode cX12_product 55 = .ok (.goto (-51), 3) := by decide +kernel
theorem dX12_product_58 : decode cX12_product 58 = .ok (.return_, 1) := by decide +kernel
theorem c12_prod {g : Gw} (hG : GF g) {z : Bool} (B : Nat → Int) (n : Nat) (hn : n ≤ 150) (U : Lws → Lws) (hGU : GW n U) (fr lo : Nat) (hfr : 3 ≤ fr) (hlo : 60 ≤ lo) (op : Int) (hU : ∀ (E S : Mm) (t : TS) (L : LW), RLP B n op E S (t, L) → CT g yX12_one cX12_one 3 none fr lo 0 0 K2 z [mR 125] (ov S) K2 z (fun r D' => r = none ∧ ∃ E1, D' = ov E1 ∧ RLP B n op E E1 (U (t, L)))) (E S : Mm) (t : TS) (L : LW) (hS_S : RLP B n op E S (t, L)) : CT g yX12_product cX12_product 2 none (fr + 1) (lo + 22) 0 0 K2 z [mR 125] (ov S) K2 z (fun r D' => r = none ∧ ∃ E1, D' = ov E1 ∧ RLP B n op E E1 (prF B n U (t, L))) := by
  refine CT.mk hG (by decide +kernel) (Nat.le_of_ble_eq_true rfl) (fun κ X Rt _ ok => ?_)
  refine at_aload_n 1 X rfl rfl dX12_product_0 rfl ?_
  refine at_callV 4 X _ 12 (hU E S t L hS_S) clX12 rfl k_125 mo_X12_one w_2050 vo_X12_one.1 vo_X12_one.2 rfl rfl (crm Rt ⟨by omega, by omega, by omega, by omega⟩) (Nat.le_of_ble_eq_true rfl) dX12_product_1 rfl ?_
  rintro _ _ ⟨rfl, F0, rfl, hS_F0⟩
  have J4 : ∀ (f4 : Nat) (F : Mm) (i : Nat) (s : Lws), 151 - i < f4 → (i ≤ 150) → (RLP B n op E F s) → (s.1.2.2.1 = 0 → 2 * i + 1 ≤ s.1.1) → (lpW B n U 42 7 47 8 (150 - i) s = prF B n U (t, L)) → AT g κ K2 z 0 0 4 [(0, mR 125)] [] (ov F) := by
    intro f4
    induction f4 with
    | zero => intro F i s hf4; omega
    | succ f4 ih4 =>
    intro F i s hf4 hi hS_F hp hs
    refine at_aload_n 5 X rfl rfl dX12_product_4 rfl ?_
    refine m_getIV 8 X ((s.1).2.2.1) (rfk hS_F.1) f_X12_168 k_125 rn_125_5 dX12_product_5 rfl ?_
    refine at_if_ne 11 58 X dX12_product_8 rfl (by decide) (fun h8 => ?_) (fun h8 => ?_)
    · have h0 : ¬ s.1.2.2.1 = 0 := h8
      refine at_vret X Rt ?_ (Nat.le_refl _) (Nat.le_refl _) dX12_product_58
      have e : s = prF B n U (t, L) := by
        rw [← hs]
        by_cases c : i = 150
        · rw [c]; rfl
        · rw [show 150 - i = (149 - i) + 1 by omega, lpW_no (fun q => h0 q.1) (fun q => h0 q.1)]
          show s = (goT B n s.1, s.2)
          unfold goT
          rw [if_neg h0]
      exact ⟨rfl, F, rfl, hS_F.eq e⟩
    · have h0 : s.1.2.2.1 = 0 := by first | exact h8 | exact Decidable.byContradiction h8
      have hi150 : i < 150 := by have := hp h0; have := hS_F.2.1.2; omega
      refine at_aload_n 12 X rfl rfl dX12_product_11 rfl ?_
      refine at_bipush 14 X (by decide) (by decide) dX12_product_12 rfl ?_
      refine at_callV 17 X _ 12 (c12_takesSign hG F B n s.1 hS_F.1 42 (by decide)) clX12 rfl k_125 mo_X12_takesSign w_2066 vo_X12_takesSign.1 vo_X12_takesSign.2 rfl rfl (crm Rt ⟨by omega, by omega, by omega, by omega⟩) (Nat.le_of_ble_eq_true rfl) dX12_product_14 rfl ?_
      rintro _ _ ⟨rfl, G1, rfl, hy_G1, hn_G1, hf_G1⟩
      refine at_if_eq 20 24 X dX12_product_17 rfl (by decide) (fun h17 => ?_) (fun h17 => ?_)
      · have h17 : ¬ (tst B n s.1 42) := ite_no.mp h17
        have hS_G1 : RLP B n op E G1 (s.1, s.2) := RLP.tape hS_F (hn_G1 h17) hf_G1 hS_F.2.1 (fun q => ⟨q, Nat.le_refl _⟩)
        refine at_aload_n 25 X rfl rfl dX12_product_24 rfl ?_
        refine at_bipush 27 X (by decide) (by decide) dX12_product_25 rfl ?_
        refine at_callV 30 X _ 12 (c12_takesSign hG G1 B n s.1 hS_G1.1 47 (by decide)) clX12 rfl k_125 mo_X12_takesSign w_2066 vo_X12_takesSign.1 vo_X12_takesSign.2 rfl rfl (crm Rt ⟨by omega, by omega, by omega, by omega⟩) (Nat.le_of_ble_eq_true rfl) dX12_product_27 rfl ?_
        rintro _ _ ⟨rfl, G2, rfl, hy_G2, hn_G2, hf_G2⟩
        refine at_if_eq 33 37 X dX12_product_30 rfl (by decide) (fun h30 => ?_) (fun h30 => ?_)
        · have h30 : ¬ (tst B n s.1 47) := ite_no.mp h30
          have hS_G2 : RLP B n op E G2 (s.1, s.2) := RLP.tape hS_G1 (hn_G2 h30) hf_G2 hS_G1.2.1 (fun q => ⟨q, Nat.le_refl _⟩)
          refine at_iconst 38 X (by decide) dX12_product_37 rfl ?_
          refine at_istore_n 39 X rfl dX12_product_38 rfl (by decide) ?_
          refine at_iload_n 40 X rfl rfl dX12_product_39 rfl ?_
          refine at_iconst 41 X (by decide) dX12_product_40 rfl ?_
          refine at_icmp_ne 44 45 X dX12_product_41 rfl (by decide) (fun h41 => ?_) (fun h41 => ?_)
          · exact absurd h41 (by decide)
          · refine at_vret X Rt ?_ (Nat.le_refl _) (Nat.le_refl _) dX12_product_44
            have e : (goT B n s.1, s.2) = prF B n U (t, L) := by rw [← hs, show 150 - i = (149 - i) + 1 by omega, lpW_no h17 h30]
            have hS_Z : RLP B n op E G2 (goT B n s.1, s.2) := RLP.tape hS_G2 hS_G2.1.go RTf.rf (goT_ok hS_G2.2.1) (fun q => go_fw hS_G2.2.1 q)
            exact ⟨rfl, G2, rfl, hS_Z.eq e⟩
        · have h30 : (tst B n s.1 47) := ite_yes.mp h30
          have hS_G2y : RLP B n op E G2 (tsT B n s.1 47, s.2) := RLP.tape hS_G1 (hy_G2 h30) hf_G2 (tsT_ok hS_G1.2.1) (fun q => ts_fw hS_G1.2.1 q)
          refine at_iconst 34 X (by decide) dX12_product_33 rfl ?_
          refine at_goto 38 X dX12_product_34 (by decide) ?_
          refine at_istore_n 39 X rfl dX12_product_38 rfl (by decide) ?_
          refine at_iload_n 40 X rfl rfl dX12_product_39 rfl ?_
          refine at_iconst 41 X (by decide) dX12_product_40 rfl ?_
          refine at_icmp_ne 44 45 X dX12_product_41 rfl (by decide) (fun h41 => ?_) (fun h41 => ?_)
          · refine at_aload_n 46 X rfl rfl dX12_product_45 rfl ?_
            refine at_callV 49 X _ 12 (hU E G2 (tsT B n s.1 47) (s.2) hS_G2y) clX12 rfl k_125 mo_X12_one w_2050 vo_X12_one.1 vo_X12_one.2 rfl rfl (crm Rt ⟨by omega, by omega, by omega, by omega⟩) (Nat.le_of_ble_eq_true rfl) dX12_product_46 rfl ?_
            rintro _ _ ⟨rfl, G6, rfl, hS_G6⟩
            have hgs := fun q => GW.step (B := B) hGU (t := s.1) (L := s.2) (c := 47) hS_F.2.1 (fun q => (hS_F.2.2.1 q).1) q
            refine at_aload_n 50 X rfl rfl dX12_product_49 rfl ?_
            refine at_iload_n 51 X rfl rfl dX12_product_50 rfl ?_
            refine at_iconst 52 X (by decide) dX12_product_51 rfl ?_
            refine at_callV 55 X _ 12 (c12_says hG B n hn op E G6 ((U (tsT B n s.1 47, s.2)).1) ((U (tsT B n s.1 47, s.2)).2) hS_G6 8 0 0 5 (by decide) (by decide) (fun q => absurd q (by decide)) (fun _ q => absurd q (by decide)) (fun q => (hgs q).2.1)) clX12 rfl k_125 mo_X12_says w_2058 vo_X12_says.1 vo_X12_says.2 rfl rfl (crm Rt ⟨by omega, by omega, by omega, by omega⟩) (Nat.le_of_ble_eq_true rfl) dX12_product_52 rfl ?_
            rintro _ _ ⟨rfl, G7, rfl, hS_G7⟩
            refine at_goto 4 X dX12_product_55 (by decide) ?_
            exact at_sub _ (by exact ⟨rfl, trivial⟩) (ih4 G7 (i + 1) ((U (tsT B n s.1 47, s.2)).1, addW ((U (tsT B n s.1 47, s.2)).2) 8 0) (by omega) (by omega) hS_G7 (fun q => by have h1 := hgs q; have h2 := hp h1.1; show 2 * (i + 1) + 1 ≤ (U (tsT B n s.1 47, s.2)).1.1; omega) (by rw [show 150 - (i + 1) = 149 - i by omega, ← hs, show 150 - i = (149 - i) + 1 by omega]; rw [lpW_y2 h17 h30]))
          · exact absurd h41 (by decide)
      · have h17 : (tst B n s.1 42) := ite_yes.mp h17
        have hS_G1y : RLP B n op E G1 (tsT B n s.1 42, s.2) := RLP.tape hS_F (hy_G1 h17) hf_G1 (tsT_ok hS_F.2.1) (fun q => ts_fw hS_F.2.1 q)
        refine at_iconst 21 X (by decide) dX12_product_20 rfl ?_
        refine at_goto 38 X dX12_product_21 (by decide) ?_
        refine at_istore_n 39 X rfl dX12_product_38 rfl (by decide) ?_
        refine at_iload_n 40 X rfl rfl dX12_product_39 rfl ?_
        refine at_iconst 41 X (by decide) dX12_product_40 rfl ?_
        refine at_icmp_ne 44 45 X dX12_product_41 rfl (by decide) (fun h41 => ?_) (fun h41 => ?_)
        · refine at_aload_n 46 X rfl rfl dX12_product_45 rfl ?_
          refine at_callV 49 X _ 12 (hU E G1 (tsT B n s.1 42) (s.2) hS_G1y) clX12 rfl k_125 mo_X12_one w_2050 vo_X12_one.1 vo_X12_one.2 rfl rfl (crm Rt ⟨by omega, by omega, by omega, by omega⟩) (Nat.le_of_ble_eq_true rfl) dX12_product_46 rfl ?_
          rintro _ _ ⟨rfl, G6, rfl, hS_G6⟩
          have hgs := fun q => GW.step (B := B) hGU (t := s.1) (L := s.2) (c := 42) hS_F.2.1 (fun q => (hS_F.2.2.1 q).1) q
          refine at_aload_n 50 X rfl rfl dX12_product_49 rfl ?_
          refine at_iload_n 51 X rfl rfl dX12_product_50 rfl ?_
          refine at_iconst 52 X (by decide) dX12_product_51 rfl ?_
          refine at_callV 55 X _ 12 (c12_says hG B n hn op E G6 ((U (tsT B n s.1 42, s.2)).1) ((U (tsT B n s.1 42, s.2)).2) hS_G6 7 0 0 4 (by decide) (by decide) (fun q => absurd q (by decide)) (fun _ q => absurd q (by decide)) (fun q => (hgs q).2.1)) clX12 rfl k_125 mo_X12_says w_2058 vo_X12_says.1 vo_X12_says.2 rfl rfl (crm Rt ⟨by omega, by omega, by omega, by omega⟩) (Nat.le_of_ble_eq_true rfl) dX12_product_52 rfl ?_
          rintro _ _ ⟨rfl, G7, rfl, hS_G7⟩
          refine at_goto 4 X dX12_product_55 (by decide) ?_
          exact at_sub _ (by exact ⟨rfl, trivial⟩) (ih4 G7 (i + 1) ((U (tsT B n s.1 42, s.2)).1, addW ((U (tsT B n s.1 42, s.2)).2) 7 0) (by omega) (by omega) hS_G7 (fun q => by have h1 := hgs q; have h2 := hp h1.1; show 2 * (i + 1) + 1 ≤ (U (tsT B n s.1 42, s.2)).1.1; omega) (by rw [show 150 - (i + 1) = 149 - i by omega, ← hs, show 150 - i = (149 - i) + 1 by omega]; rw [lpW_y1 h17]))
        · exact absurd h41 (by decide)
  exact at_sub _ (by exact ⟨rfl, trivial⟩) (J4 _ F0 0 (U (t, L)) (Nat.lt_succ_self _) (by first | omega | assumption | rfl) hS_F0 (fun q => by obtain ⟨u1, u2, u3⟩ := hGU (t, L) hS_S.2.1; have := (u3 (hS_S.2.2.1 (u2 q)).1 q).1; omega) rfl)
theorem dX12_sum_0 : decode cX12_sum 0 = .ok (.aload_n 0, 1) := by decide +kernel
theorem dX12_sum_1 : decode cX12_sum 1 = .ok (.invokevirtual 279, 3) := by decide +kernel
theorem dX12_sum_4 : decode cX12_sum 4 = .ok (.aload_n 0, 1) := by decide +kernel
theorem dX12_sum_5 : decode cX12_sum 5 = .ok (.getfield 168, 3) := by decide +kernel
theorem dX12_sum_8 : decode cX12_sum 8 = .ok (.ifCond .ne 50, 3) := by decide +kernel
theorem dX12_sum_11 : decode cX12_sum 11 = .ok (.aload_n 0, 1) := by decide +kernel
theorem dX12_sum_12 : decode cX12_sum 12 = .ok (.bipush 43, 2) := by decide +kernel
theorem dX12_sum_14 : decode cX12_sum 14 = .ok (.invokevirtual 282, 3) := by decide +kernel
theorem dX12_sum_17 : decode cX12_sum 17 = .ok (.ifCond .eq 7, 3) := by decide +kernel
theorem dX12_sum_20 : decode cX12_sum 20 = .ok (.iconst 2, 1) := by decide +kernel
theorem dX12_sum_21 : decode cX12_sum 21 = .ok (.goto 17, 3) := by decide +kernel
theorem dX12_sum_24 : decode cX12_sum 24 = .ok (.aload_n 0, 1) := by decide +kernel
theorem dX12_sum_25 : decode cX12_sum 25 = .ok (.bipush 45, 2) := by decide +kernel
theorem dX12_sum_27 : decode cX12_sum 27 = .ok (.invokevirtual 282, 3) := by decide +kernel
theorem dX12_sum_30 : decode cX12_sum 30 = .ok (.ifCond .eq 7, 3) := by decide +kernel
theorem dX12_sum_33 : decode cX12_sum 33 = .ok (.iconst 3, 1) := by decide +kernel
theorem dX12_sum_34 : decode cX12_sum 34 = .ok (.goto 4, 3) := by decide +kernel
theorem dX12_sum_37 : decode cX12_sum 37 = .ok (.iconst (-1), 1) := by decide +kernel
theorem dX12_sum_38 : decode cX12_sum 38 = .ok (.istore_n 1, 1) := by decide +kernel
theorem dX12_sum_39 : decode cX12_sum 39 = .ok (.iload_n 1, 1) := by decide +kernel
theorem dX12_sum_40 : decode cX12_sum 40 = .ok (.iconst (-1), 1) := by decide +kernel
theorem dX12_sum_41 : decode cX12_sum 41 = .ok (.if_icmp .ne 4, 3) := by decide +kernel
theorem dX12_sum_44 : decode cX12_sum 44 = .ok (.return_, 1) := by decide +kernel
theorem dX12_sum_45 : decode cX12_sum 45 = .ok (.aload_n 0, 1) := by decide +kernel
theorem dX12_sum_46 : decode cX12_sum 46 = .ok (.invokevirtual 279, 3) := by decide +kernel
theorem dX12_sum_49 : decode cX12_sum 49 = .ok (.aload_n 0, 1) := by decide +kernel
theorem dX12_sum_50 : decode cX12_sum 50 = .ok (.iload_n 1, 1) := by decide +kernel
theorem dX12_sum_51 : decode cX12_sum 51 = .ok (.iconst 0, 1) := by decide +kernel
theorem dX12_sum_52 : decode cX12_sum 52 = .ok (.invokevirtual 285, 3) := by decide +kernel
theorem dX12_sum_55 : decode cX12_sum 55 = .ok (.goto (-51), 3) := by decide +kernel
theorem dX12_sum_58 : decode cX12_sum 58 = .ok (.return_, 1) := by decide +kernel
theorem c12_sum {g : Gw} (hG : GF g) {z : Bool} (B : Nat → Int) (n : Nat) (hn : n ≤ 150) (U : Lws → Lws) (hGU : GW n U) (fr lo : Nat) (hfr : 3 ≤ fr) (hlo : 60 ≤ lo) (op : Int) (hU : ∀ (E S : Mm) (t : TS) (L : LW), RLP B n op E S (t, L) → CT g yX12_product cX12_product 2 none fr lo 0 0 K2 z [mR 125] (ov S) K2 z (fun r D' => r = none ∧ ∃ E1, D' = ov E1 ∧ RLP B n op E E1 (U (t, L)))) (E S : Mm) (t : TS) (L : LW) (hS_S : RLP B n op E S (t, L)) : CT g yX12_sum cX12_sum 2 none (fr + 1) (lo + 21) 0 0 K2 z [mR 125] (ov S) K2 z (fun r D' => r = none ∧ ∃ E1, D' = ov E1 ∧ RLP B n op E E1 (lpW B n U 43 5 45 6 150 (U (t, L)))) := by
  refine CT.mk hG (by decide +kernel) (Nat.le_of_ble_eq_true rfl) (fun κ X Rt _ ok => ?_)
  refine at_aload_n 1 X rfl rfl dX12_sum_0 rfl ?_
  refine at_callV 4 X _ 12 (hU E S t L hS_S) clX12 rfl k_125 mo_X12_product w_2046 vo_X12_product.1 vo_X12_product.2 rfl rfl (crm Rt ⟨by omega, by omega, by omega, by omega⟩) (Nat.le_of_ble_eq_true rfl) dX12_sum_1 rfl ?_
  rintro _ _ ⟨rfl, F0, rfl, hS_F0⟩
  have J4 : ∀ (f4 : Nat) (F : Mm) (i : Nat) (s : Lws), 151 - i < f4 → (i ≤ 150) → (RLP B n op E F s) → (s.1.2.2.1 = 0 → 2 * i + 1 ≤ s.1.1) → (lpW B n U 43 5 45 6 (150 - i) s = lpW B n U 43 5 45 6 150 (U (t, L))) → AT g κ K2 z 0 0 4 [(0, mR 125)] [] (ov F) := by
    intro f4
    induction f4 with
    | zero => intro F i s hf4; omega
    | succ f4 ih4 =>
    intro F i s hf4 hi hS_F hp hs
    refine at_aload_n 5 X rfl rfl dX12_sum_4 rfl ?_
    refine m_getIV 8 X ((s.1).2.2.1) (rfk hS_F.1) f_X12_168 k_125 rn_125_5 dX12_sum_5 rfl ?_
    refine at_if_ne 11 58 X dX12_sum_8 rfl (by decide) (fun h8 => ?_) (fun h8 => ?_)
    · have h0 : ¬ s.1.2.2.1 = 0 := h8
      refine at_vret X Rt ?_ (Nat.le_refl _) (Nat.le_refl _) dX12_sum_58
      have e : s = lpW B n U 43 5 45 6 150 (U (t, L)) := by
        rw [← hs]
        by_cases c : i = 150
        · rw [c]; rfl
        · rw [show 150 - i = (149 - i) + 1 by omega, lpW_no (fun q => h0 q.1) (fun q => h0 q.1)]
          show s = (goT B n s.1, s.2)
          unfold goT
          rw [if_neg h0]
      exact ⟨rfl, F, rfl, hS_F.eq e⟩
    · have h0 : s.1.2.2.1 = 0 := by first | exact h8 | exact Decidable.byContradiction h8
      have hi150 : i < 150 := by have := hp h0; have := hS_F.2.1.2; omega
      refine at_aload_n 12 X rfl rfl dX12_sum_11 rfl ?_
      refine at_bipush 14 X (by decide) (by decide) dX12_sum_12 rfl ?_
      refine at_callV 17 X _ 12 (c12_takesSign hG F B n s.1 hS_F.1 43 (by decide)) clX12 rfl k_125 mo_X12_takesSign w_2066 vo_X12_takesSign.1 vo_X12_takesSign.2 rfl rfl (crm Rt ⟨by omega, by omega, by omega, by omega⟩) (Nat.le_of_ble_eq_true rfl) dX12_sum_14 rfl ?_
      rintro _ _ ⟨rfl, G1, rfl, hy_G1, hn_G1, hf_G1⟩
      refine at_if_eq 20 24 X dX12_sum_17 rfl (by decide) (fun h17 => ?_) (fun h17 => ?_)
      · have h17 : ¬ (tst B n s.1 43) := ite_no.mp h17
        have hS_G1 : RLP B n op E G1 (s.1, s.2) := RLP.tape hS_F (hn_G1 h17) hf_G1 hS_F.2.1 (fun q => ⟨q, Nat.le_refl _⟩)
        refine at_aload_n 25 X rfl rfl dX12_sum_24 rfl ?_
        refine at_bipush 27 X (by decide) (by decide) dX12_sum_25 rfl ?_
        refine at_callV 30 X _ 12 (c12_takesSign hG G1 B n s.1 hS_G1.1 45 (by decide)) clX12 rfl k_125 mo_X12_takesSign w_2066 vo_X12_takesSign.1 vo_X12_takesSign.2 rfl rfl (crm Rt ⟨by omega, by omega, by omega, by omega⟩) (Nat.le_of_ble_eq_true rfl) dX12_sum_27 rfl ?_
        rintro _ _ ⟨rfl, G2, rfl, hy_G2, hn_G2, hf_G2⟩
        refine at_if_eq 33 37 X dX12_sum_30 rfl (by decide) (fun h30 => ?_) (fun h30 => ?_)
        · have h30 : ¬ (tst B n s.1 45) := ite_no.mp h30
          have hS_G2 : RLP B n op E G2 (s.1, s.2) := RLP.tape hS_G1 (hn_G2 h30) hf_G2 hS_G1.2.1 (fun q => ⟨q, Nat.le_refl _⟩)
          refine at_iconst 38 X (by decide) dX12_sum_37 rfl ?_
          refine at_istore_n 39 X rfl dX12_sum_38 rfl (by decide) ?_
          refine at_iload_n 40 X rfl rfl dX12_sum_39 rfl ?_
          refine at_iconst 41 X (by decide) dX12_sum_40 rfl ?_
          refine at_icmp_ne 44 45 X dX12_sum_41 rfl (by decide) (fun h41 => ?_) (fun h41 => ?_)
          · exact absurd h41 (by decide)
          · refine at_vret X Rt ?_ (Nat.le_refl _) (Nat.le_refl _) dX12_sum_44
            have e : (goT B n s.1, s.2) = lpW B n U 43 5 45 6 150 (U (t, L)) := by rw [← hs, show 150 - i = (149 - i) + 1 by omega, lpW_no h17 h30]
            have hS_Z : RLP B n op E G2 (goT B n s.1, s.2) := RLP.tape hS_G2 hS_G2.1.go RTf.rf (goT_ok hS_G2.2.1) (fun q => go_fw hS_G2.2.1 q)
            exact ⟨rfl, G2, rfl, hS_Z.eq e⟩
        · have h30 : (tst B n s.1 45) := ite_yes.mp h30
          have hS_G2y : RLP B n op E G2 (tsT B n s.1 45, s.2) := RLP.tape hS_G1 (hy_G2 h30) hf_G2 (tsT_ok hS_G1.2.1) (fun q => ts_fw hS_G1.2.1 q)
          refine at_iconst 34 X (by decide) dX12_sum_33 rfl ?_
          refine at_goto 38 X dX12_sum_34 (by decide) ?_
          refine at_istore_n 39 X rfl dX12_sum_38 rfl (by decide) ?_
          refine at_iload_n 40 X rfl rfl dX12_sum_39 rfl ?_
          refine at_iconst 41 X (by decide) dX12_sum_40 rfl ?_
          refine at_icmp_ne 44 45 X dX12_sum_41 rfl (by decide) (fun h41 => ?_) (fun h41 => ?_)
          · refine at_aload_n 46 X rfl rfl dX12_sum_45 rfl ?_
            refine at_callV 49 X _ 12 (hU E G2 (tsT B n s.1 45) (s.2) hS_G2y) clX12 rfl k_125 mo_X12_product w_2046 vo_X12_product.1 vo_X12_product.2 rfl rfl (crm Rt ⟨by omega, by omega, by omega, by omega⟩) (Nat.le_of_ble_eq_true rfl) dX12_sum_46 rfl ?_
            rintro _ _ ⟨rfl, G6, rfl, hS_G6⟩
            have hgs := fun q => GW.step (B := B) hGU (t := s.1) (L := s.2) (c := 45) hS_F.2.1 (fun q => (hS_F.2.2.1 q).1) q
            refine at_aload_n 50 X rfl rfl dX12_sum_49 rfl ?_
            refine at_iload_n 51 X rfl rfl dX12_sum_50 rfl ?_
            refine at_iconst 52 X (by decide) dX12_sum_51 rfl ?_
            refine at_callV 55 X _ 12 (c12_says hG B n hn op E G6 ((U (tsT B n s.1 45, s.2)).1) ((U (tsT B n s.1 45, s.2)).2) hS_G6 6 0 0 3 (by decide) (by decide) (fun q => absurd q (by decide)) (fun _ q => absurd q (by decide)) (fun q => (hgs q).2.1)) clX12 rfl k_125 mo_X12_says w_2058 vo_X12_says.1 vo_X12_says.2 rfl rfl (crm Rt ⟨by omega, by omega, by omega, by omega⟩) (Nat.le_of_ble_eq_true rfl) dX12_sum_52 rfl ?_
            rintro _ _ ⟨rfl, G7, rfl, hS_G7⟩
            refine at_goto 4 X dX12_sum_55 (by decide) ?_
            exact at_sub _ (by exact ⟨rfl, trivial⟩) (ih4 G7 (i + 1) ((U (tsT B n s.1 45, s.2)).1, addW ((U (tsT B n s.1 45, s.2)).2) 6 0) (by omega) (by omega) hS_G7 (fun q => by have h1 := hgs q; have h2 := hp h1.1; show 2 * (i + 1) + 1 ≤ (U (tsT B n s.1 45, s.2)).1.1; omega) (by rw [show 150 - (i + 1) = 149 - i by omega, ← hs, show 150 - i = (149 - i) + 1 by omega]; rw [lpW_y2 h17 h30]))
          · exact absurd h41 (by decide)
      · have h17 : (tst B n s.1 43) := ite_yes.mp h17
        have hS_G1y : RLP B n op E G1 (tsT B n s.1 43, s.2) := RLP.tape hS_F (hy_G1 h17) hf_G1 (tsT_ok hS_F.2.1) (fun q => ts_fw hS_F.2.1 q)
        refine at_iconst 21 X (by decide) dX12_sum_20 rfl ?_
        refine at_goto 38 X dX12_sum_21 (by decide) ?_
        refine at_istore_n 39 X rfl dX12_sum_38 rfl (by decide) ?_
        refine at_iload_n 40 X rfl rfl dX12_sum_39 rfl ?_
        refine at_iconst 41 X (by decide) dX12_sum_40 rfl ?_
        refine at_icmp_ne 44 45 X dX12_sum_41 rfl (by decide) (fun h41 => ?_) (fun h41 => ?_)
        · refine at_aload_n 46 X rfl rfl dX12_sum_45 rfl ?_
          refine at_callV 49 X _ 12 (hU E G1 (tsT B n s.1 43) (s.2) hS_G1y) clX12 rfl k_125 mo_X12_product w_2046 vo_X12_product.1 vo_X12_product.2 rfl rfl (crm Rt ⟨by omega, by omega, by omega, by omega⟩) (Nat.le_of_ble_eq_true rfl) dX12_sum_46 rfl ?_
          rintro _ _ ⟨rfl, G6, rfl, hS_G6⟩
          have hgs := fun q => GW.step (B := B) hGU (t := s.1) (L := s.2) (c := 43) hS_F.2.1 (fun q => (hS_F.2.2.1 q).1) q
          refine at_aload_n 50 X rfl rfl dX12_sum_49 rfl ?_
          refine at_iload_n 51 X rfl rfl dX12_sum_50 rfl ?_
          refine at_iconst 52 X (by decide) dX12_sum_51 rfl ?_
          refine at_callV 55 X _ 12 (c12_says hG B n hn op E G6 ((U (tsT B n s.1 43, s.2)).1) ((U (tsT B n s.1 43, s.2)).2) hS_G6 5 0 0 2 (by decide) (by decide) (fun q => absurd q (by decide)) (fun _ q => absurd q (by decide)) (fun q => (hgs q).2.1)) clX12 rfl k_125 mo_X12_says w_2058 vo_X12_says.1 vo_X12_says.2 rfl rfl (crm Rt ⟨by omega, by omega, by omega, by omega⟩) (Nat.le_of_ble_eq_true rfl) dX12_sum_52 rfl ?_
          rintro _ _ ⟨rfl, G7, rfl, hS_G7⟩
          refine at_goto 4 X dX12_sum_55 (by decide) ?_
          exact at_sub _ (by exact ⟨rfl, trivial⟩) (ih4 G7 (i + 1) ((U (tsT B n s.1 43, s.2)).1, addW ((U (tsT B n s.1 43, s.2)).2) 5 0) (by omega) (by omega) hS_G7 (fun q => by have h1 := hgs q; have h2 := hp h1.1; show 2 * (i + 1) + 1 ≤ (U (tsT B n s.1 43, s.2)).1.1; omega) (by rw [show 150 - (i + 1) = 149 - i by omega, ← hs, show 150 - i = (149 - i) + 1 by omega]; rw [lpW_y1 h17]))
        · exact absurd h41 (by decide)
  exact at_sub _ (by exact ⟨rfl, trivial⟩) (J4 _ F0 0 (U (t, L)) (Nat.lt_succ_self _) (by first | omega | assumption | rfl) hS_F0 (fun q => by obtain ⟨u1, u2, u3⟩ := hGU (t, L) hS_S.2.1; have := (u3 (hS_S.2.2.1 (u2 q)).1 q).1; omega) rfl)
theorem RLP.op {B : Nat → Int} {n : Nat} {op op' : Int} {E S : Mm} {s : Lws} (h : RLP B n op E S s) : RLP B n op' E (wr S 125 8 op') s :=
  ⟨h.1.w (fun k hk => wr_o (by omega)) (wr_row (by omega)), h.2.1, fun q => ⟨(h.2.2.1 q).1, (h.2.2.1 q).2.fr (fun q hq => wr_row hq) (wr_o (by omega))⟩, wr_s _ _ _ _, h.2.2.2.2.tr ⟨fun q hq => wr_row (by omega), fun k hk => wr_o (by omega)⟩⟩
theorem RTp.put {E : Mm} {B : Nat → Int} {n : Nat} {t : TS} (h : RTp E B n t) (h0 : t.2.2.1 = 0) {c : Int} (hs : isA B n (sk B n t.1) c c) : RTp (wr E 125 4 ((sk B n t.1 + 1 : Nat) : Int)) B n (tsT B n t c) := by
  obtain ⟨a, hA, h5, h6, he⟩ := h
  have e : tsT B n t c = (sk B n t.1 + 1, sk B n t.1, t.2.2) := by
    unfold tsT
    rw [if_pos h0, if_pos hs]
  have hb := hs.1
  rw [e]
  exact ⟨sk B n t.1 + 1, (hA.w4 (by omega)).1, (wr_o (by omega)).trans h5, (wr_o (by omega)).trans h6, fun _ => rfl⟩
theorem c12_byteP {g : Gw} (hG : GF g) {z : Bool} (E : Mm) (B : Nat → Int) (n : Nat) (t : TS) (hP : RTp E B n t) (k : Nat) : CT g yX12_byteAt cX12_byteAt 2 (some .int) 0 0 0 0 K2 z [mR 125, mI (k : Int)] (ov E) K2 z (fun r D' => r = some (mI (bAt B n k)) ∧ D' = ov E) := by
  obtain ⟨a, hA, h5, h6, he⟩ := hP
  exact c12_byteAt hG E B n a hA k
theorem wd_nd {B : Nat → Int} {n : Nat} {t : TS} {b : List Int} (h0 : t.2.2.1 = 0) (hb : 0 < b.length ∧ 97 ≤ b.getD 0 0) (h : wdB B (twT B n t) b = true) : ¬ isA B n (sk B n t.1) 48 57 ∧ ¬ isA B n (sk B n t.1) 40 40 := by
  have e : twT B n t = (wdE B n (sk B n t.1), sk B n t.1, t.2.2) := if_pos h0
  rw [e] at h
  have q := (wdB_iff.mp h).2 0 hb.1
  have q' : B (sk B n t.1 + 0) = b.getD 0 0 := q
  rw [Nat.add_zero] at q'
  exact ⟨fun c => by have := c.2.2; omega, fun c => by have := c.2.2; omega⟩
theorem wo_9 {B : Nat → Int} {t : TS} (h : wdB B t [108, 101, 97, 115, 116] = true) : woW B t = 9 := by
  unfold woW
  rw [if_neg (fun q => absurd (wdB_uniq q h) (by decide)), if_neg (fun q => absurd (wdB_uniq q h) (by decide)), if_neg (fun q => absurd (wdB_uniq q h) (by decide)), if_neg (fun q => absurd (wdB_uniq q h) (by decide)), if_pos h]
theorem wo_10 {B : Nat → Int} {t : TS} (h : wdB B t [109, 111, 115, 116] = true) : woW B t = 10 := by
  unfold woW
  rw [if_neg (fun q => absurd (wdB_uniq q h) (by decide)), if_neg (fun q => absurd (wdB_uniq q h) (by decide)), if_neg (fun q => absurd (wdB_uniq q h) (by decide)), if_neg (fun q => absurd (wdB_uniq q h) (by decide)), if_neg (fun q => absurd (wdB_uniq q h) (by decide)), if_pos h]
theorem wo_1 {B : Nat → Int} {t : TS} (h : wdB B t [115, 104, 97, 100, 101, 115] = true) : woW B t = 1 := if_pos h
theorem wo_2 {B : Nat → Int} {t : TS} (h : wdB B t [116, 97, 108, 108] = true) : woW B t = 2 := by
  unfold woW
  rw [if_neg (fun q => absurd (wdB_uniq q h) (by decide)), if_pos h]
theorem wo_3 {B : Nat → Int} {t : TS} (h : wdB B t [104, 111, 117, 114] = true) : woW B t = 3 := by
  unfold woW
  rw [if_neg (fun q => absurd (wdB_uniq q h) (by decide)), if_neg (fun q => absurd (wdB_uniq q h) (by decide)), if_pos h]
theorem wo_4 {B : Nat → Int} {t : TS} (h : wdB B t [108, 97, 109, 112] = true) : woW B t = 4 := by
  unfold woW
  rw [if_neg (fun q => absurd (wdB_uniq q h) (by decide)), if_neg (fun q => absurd (wdB_uniq q h) (by decide)), if_neg (fun q => absurd (wdB_uniq q h) (by decide)), if_pos h]
theorem nu_nd {B : Nat → Int} {n : Nat} {t : TS} {lo hi : Int} (h0 : t.2.2.1 = 0) (hd : ¬ isA B n (sk B n t.1) 48 57) : (nuT B n t lo hi).2.2 = (1, ((sk B n t.1 : Nat) : Int)) := by
  unfold nuT takeT
  rw [if_pos h0, nm_n hd, if_pos rfl]
  unfold flT
  rw [if_pos (show (sk B n t.1, sk B n t.1, t.2.2).2.2.1 = 0 from h0)]
theorem dX12_opens_0 : decode cX12_opens 0 = .ok (.aload_n 0, 1) := by decide +kernel
theorem dX12_opens_1 : decode cX12_opens 1 = .ok (.getfield 168, 3) := by decide +kernel
theorem dX12_opens_4 : decode cX12_opens 4 = .ok (.ifCond .ne 24, 3) := by decide +kernel
theorem dX12_opens_7 : decode cX12_opens 7 = .ok (.aload_n 0, 1) := by decide +kernel
theorem dX12_opens_8 : decode cX12_opens 8 = .ok (.getfield 211, 3) := by decide +kernel
theorem dX12_opens_11 : decode cX12_opens 11 = .ok (.bipush 6, 2) := by decide +kernel
theorem dX12_opens_13 : decode cX12_opens 13 = .ok (.if_icmp .ne 15, 3) := by decide +kernel
theorem dX12_opens_16 : decode cX12_opens 16 = .ok (.aload_n 0, 1) := by decide +kernel
theorem dX12_opens_17 : decode cX12_opens 17 = .ok (.iconst 3, 1) := by decide +kernel
theorem dX12_opens_18 : decode cX12_opens 18 = .ok (.aload_n 0, 1) := by decide +kernel
theorem dX12_opens_19 : decode cX12_opens 19 = .ok (.getfield 161, 3) := by decide +kernel
theorem dX12_opens_22 : decode cX12_opens 22 = .ok (.invokevirtual 181, 3) := by decide +kernel
theorem dX12_opens_25 : decode cX12_opens 25 = .ok (.goto 20, 3) := by decide +kernel
theorem dX12_opens_28 : decode cX12_opens 28 = .ok (.aload_n 0, 1) := by decide +kernel
theorem dX12_opens_29 : decode cX12_opens 29 = .ok (.getfield 168, 3) := by decide +kernel
theorem dX12_opens_32 : decode cX12_opens 32 = .ok (.ifCond .ne 13, 3) := by decide +kernel
theorem dX12_opens_35 : decode cX12_opens 35 = .ok (.aload_n 0, 1) := by decide +kernel
theorem dX12_opens_36 : decode cX12_opens 36 = .ok (.dup, 1) := by decide +kernel
theorem dX12_opens_37 : decode cX12_opens 37 = .ok (.getfield 211, 3) := by decide +kernel
theorem dX12_opens_40 : decode cX12_opens 40 = .ok (.iconst 1, 1) := by decide +kernel
theorem dX12_opens_41 : decode cX12_opens 41 = .ok (.iadd, 1) := by decide +kernel
theorem dX12_opens_42 : decode cX12_opens 42 = .ok (.putfield 211, 3) := by decide +kernel
theorem dX12_opens_45 : decode cX12_opens 45 = .ok (.aload_n 0, 1) := by decide +kernel
theorem dX12_opens_46 : decode cX12_opens 46 = .ok (.getfield 168, 3) := by decide +kernel
theorem dX12_opens_49 : decode cX12_opens 49 = .ok (.ifCond .ne 7, 3) := by decide +kernel
theorem dX12_opens_52 : decode cX12_opens 52 = .ok (.iconst 1, 1) := by decide +kernel
theorem dX12_opens_53 : decode cX12_opens 53 = .ok (.goto 4, 3) := by decide +kernel
theorem dX12_opens_56 : decode cX12_opens 56 = .ok (.iconst 0, 1) := by decide +kernel
theorem dX12_opens_57 : decode cX12_opens 57 = .ok (.ireturn, 1) := by decide +kernel
theorem c12_opens0 {g : Gw} (hG : GF g) {z : Bool} (E : Mm) (B : Nat → Int) (n : Nat) (op : Int) (S : Mm) (t : TS) (L : LW) (hS : RLP B n op E S (t, L)) (h0 : t.2.2.1 = 0) (hat : S 125 4 = ((sk B n t.1 : Nat) : Int)) (hz : op = 6) (u : TS) (hO : OKt n u) (hu : u.2.2 = (3, ((sk B n t.1 : Nat) : Int))) : CT g yX12_opens cX12_opens 1 (some .boolean) 1 22 0 0 K2 z [mR 125] (ov S) K2 z (fun r D' => r = some (mI 0) ∧ ∃ E1, D' = ov E1 ∧ RLP B n op E E1 (u, L)) := by
  refine CT.mk hG (by decide +kernel) (Nat.le_of_ble_eq_true rfl) (fun κ X Rt _ ok => ?_)
  refine at_aload_n 1 X rfl rfl dX12_opens_0 rfl ?_
  refine m_getIV 4 X t.2.2.1 (rfk hS.1) f_X12_168 k_125 rn_125_5 dX12_opens_1 rfl ?_
  refine at_if_ne 7 28 X dX12_opens_4 rfl (by decide) (fun h4 => ?_) (fun h4 => ?_)
  · exact absurd h0 h4
  · refine at_aload_n 8 X rfl rfl dX12_opens_7 rfl ?_
    refine m_getIV 11 X op hS.2.2.2.1 f_X12_211 k_125 rn_125_8 dX12_opens_8 rfl ?_
    refine at_bipush 13 X (by decide) (by decide) dX12_opens_11 rfl ?_
    refine at_icmp_ne 16 28 X dX12_opens_13 rfl (by decide) (fun h13 => ?_) (fun h13 => ?_)
    · exact absurd hz h13
    · refine at_aload_n 17 X rfl rfl dX12_opens_16 rfl ?_
      refine at_iconst 18 X (by decide) dX12_opens_17 rfl ?_
      refine at_aload_n 19 X rfl rfl dX12_opens_18 rfl ?_
      refine m_getIV 22 X ((sk B n t.1 : Nat) : Int) hat f_X12_161 k_125 rn_125_4 dX12_opens_19 rfl ?_
      refine at_callV 25 X _ 12 (c12_fl hG S B n t hS.1 h0 3 ((sk B n t.1 : Nat) : Int) (by decide) u hu) clX12 rfl k_125 mo_X12_wrong w_1998 vo_X12_wrong.1 vo_X12_wrong.2 rfl rfl (crm Rt (by decide)) (Nat.le_of_ble_eq_true rfl) dX12_opens_22 rfl ?_
      rintro _ _ ⟨rfl, H1, rfl, hP_H1, hf_H1⟩
      refine at_goto 45 X dX12_opens_25 (by decide) ?_
      have hu1 : u.2.2.1 = 3 := by rw [hu]
      refine at_aload_n 46 X rfl rfl dX12_opens_45 rfl ?_
      refine m_getIV 49 X u.2.2.1 (rfk hP_H1) f_X12_168 k_125 rn_125_5 dX12_opens_46 rfl ?_
      refine at_if_ne 52 56 X dX12_opens_49 rfl (by decide) (fun h49 => ?_) (fun h49 => ?_)
      · refine at_iconst 57 X (by decide) dX12_opens_56 rfl ?_
        refine at_zret X Rt ?_ (by first | decide | (split <;> decide)) (Nat.le_refl _) (Nat.le_refl _) dX12_opens_57
        exact ⟨rfl, H1, rfl, RLP.tape hS hP_H1 hf_H1 hO (fun q => by rw [hu] at q; exact absurd (show (3 : Int) = 0 from q) (by decide))⟩
      · exfalso; omega
theorem c12_opensS {g : Gw} (hG : GF g) {z : Bool} (E : Mm) (B : Nat → Int) (n : Nat) (op : Int) (S : Mm) (t : TS) (L : LW) (hS : RLP B n op E S (t, L)) (h0 : t.2.2.1 = 0) (hat : S 125 4 = ((sk B n t.1 : Nat) : Int)) (hz : ¬ op = 6) (hop : -100 ≤ op ∧ op ≤ 100) : CT g yX12_opens cX12_opens 1 (some .boolean) 1 22 0 0 K2 z [mR 125] (ov S) K2 z (fun r D' => r = some (mI 1) ∧ ∃ E1, D' = ov E1 ∧ RLP B n (op + 1) E E1 (t, L) ∧ E1 125 4 = ((sk B n t.1 : Nat) : Int)) := by
  refine CT.mk hG (by decide +kernel) (Nat.le_of_ble_eq_true rfl) (fun κ X Rt _ ok => ?_)
  refine at_aload_n 1 X rfl rfl dX12_opens_0 rfl ?_
  refine m_getIV 4 X t.2.2.1 (rfk hS.1) f_X12_168 k_125 rn_125_5 dX12_opens_1 rfl ?_
  refine at_if_ne 7 28 X dX12_opens_4 rfl (by decide) (fun h4 => ?_) (fun h4 => ?_)
  · exact absurd h0 h4
  · refine at_aload_n 8 X rfl rfl dX12_opens_7 rfl ?_
    refine m_getIV 11 X op hS.2.2.2.1 f_X12_211 k_125 rn_125_8 dX12_opens_8 rfl ?_
    refine at_bipush 13 X (by decide) (by decide) dX12_opens_11 rfl ?_
    refine at_icmp_ne 16 28 X dX12_opens_13 rfl (by decide) (fun h13 => ?_) (fun h13 => ?_)
    · refine at_aload_n 29 X rfl rfl dX12_opens_28 rfl ?_
      refine m_getIV 32 X t.2.2.1 (rfk hS.1) f_X12_168 k_125 rn_125_5 dX12_opens_29 rfl ?_
      refine at_if_ne 35 45 X dX12_opens_32 rfl (by decide) (fun h32 => ?_) (fun h32 => ?_)
      · exact absurd h0 h32
      · refine at_aload_n 36 X rfl rfl dX12_opens_35 rfl ?_
        refine at_dup 37 X (show ¬ (2 : Nat) = 1 by decide) dX12_opens_36 rfl ?_
        refine m_getIV 40 X op hS.2.2.2.1 f_X12_211 k_125 rn_125_8 dX12_opens_37 rfl ?_
        refine at_iconst 41 X (by decide) dX12_opens_40 rfl ?_
        refine at_iaddV 42 X (op + 1) (w32_v rfl (by omega) (by omega)) dX12_opens_41 rfl ?_
        refine m_putI 45 X f_X12_211 fw_12_8 k_125 rn_125_8 dX12_opens_42 rfl ?_
        refine at_aload_n 46 X rfl rfl dX12_opens_45 rfl ?_
        refine m_getIV 49 X t.2.2.1 ((wr_o (by omega)).trans (rfk hS.1)) f_X12_168 k_125 rn_125_5 dX12_opens_46 rfl ?_
        refine at_if_ne 52 56 X dX12_opens_49 rfl (by decide) (fun h49 => ?_) (fun h49 => ?_)
        · exact absurd h0 h49
        · refine at_iconst 53 X (by decide) dX12_opens_52 rfl ?_
          refine at_goto 57 X dX12_opens_53 (by decide) ?_
          refine at_zret X Rt ?_ (by first | decide | (split <;> decide)) (Nat.le_refl _) (Nat.le_refl _) dX12_opens_57
          exact ⟨rfl, _, rfl, hS.op, (wr_o (by omega)).trans hat⟩
    · exact absurd (by omega) hz
theorem flT_go {B : Nat → Int} {n : Nat} {t : TS} (h : t.2.2.1 = 0) (k : Int) : (flT (goT B n t) k).2.2 = (k, ((sk B n t.1 : Nat) : Int)) := by
  have e : goT B n t = (sk B n t.1, sk B n t.1, t.2.2) := if_pos h
  rw [e]
  unfold flT
  rw [if_pos (show t.2.2.1 = 0 from h)]
theorem twT_len {B : Nat → Int} {n : Nat} {t : TS} {k : Int} (h0 : t.2.2.1 = 0) (h : woW B (twT B n t) = k) (hk : ¬ k = 11 := by decide) : sk B n t.1 < (twT B n t).1 := by
  have e : twT B n t = (wdE B n (sk B n t.1), sk B n t.1, t.2.2) := if_pos h0
  have := woW_len (t := twT B n t) (by rw [h]; exact hk)
  rw [e] at this ⊢
  exact this
theorem dX12_one_0 : decode cX12_one 0 = .ok (.aload_n 0, 1) := by decide +kernel
theorem dX12_one_1 : decode cX12_one 1 = .ok (.getfield 168, 3) := by decide +kernel
theorem dX12_one_4 : decode cX12_one 4 = .ok (.ifCond .eq 4, 3) := by decide +kernel
theorem dX12_one_7 : decode cX12_one 7 = .ok (.return_, 1) := by decide +kernel
theorem dX12_one_8 : decode cX12_one 8 = .ok (.aload_n 0, 1) := by decide +kernel
theorem dX12_one_9 : decode cX12_one 9 = .ok (.invokevirtual 174, 3) := by decide +kernel
theorem dX12_one_12 : decode cX12_one 12 = .ok (.aload_n 0, 1) := by decide +kernel
theorem dX12_one_13 : decode cX12_one 13 = .ok (.bipush 12, 2) := by decide +kernel
theorem dX12_one_15 : decode cX12_one 15 = .ok (.iconst 5, 1) := by decide +kernel
theorem dX12_one_16 : decode cX12_one 16 = .ok (.iconst 1, 1) := by decide +kernel
theorem dX12_one_17 : decode cX12_one 17 = .ok (.bipush 19, 2) := by decide +kernel
theorem dX12_one_19 : decode cX12_one 19 = .ok (.bipush 20, 2) := by decide +kernel
theorem dX12_one_21 : decode cX12_one 21 = .ok (.iconst 0, 1) := by decide +kernel
theorem dX12_one_22 : decode cX12_one 22 = .ok (.invokevirtual 201, 3) := by decide +kernel
theorem dX12_one_25 : decode cX12_one 25 = .ok (.ifCond .eq 8, 3) := by decide +kernel
theorem dX12_one_28 : decode cX12_one 28 = .ok (.bipush 6, 2) := by decide +kernel
theorem dX12_one_30 : decode cX12_one 30 = .ok (.goto 26, 3) := by decide +kernel
theorem dX12_one_33 : decode cX12_one 33 = .ok (.aload_n 0, 1) := by decide +kernel
theorem dX12_one_34 : decode cX12_one 34 = .ok (.bipush 13, 2) := by decide +kernel
theorem dX12_one_36 : decode cX12_one 36 = .ok (.bipush 15, 2) := by decide +kernel
theorem dX12_one_38 : decode cX12_one 38 = .ok (.bipush 19, 2) := by decide +kernel
theorem dX12_one_40 : decode cX12_one 40 = .ok (.bipush 20, 2) := by decide +kernel
theorem dX12_one_42 : decode cX12_one 42 = .ok (.iconst 0, 1) := by decide +kernel
theorem dX12_one_43 : decode cX12_one 43 = .ok (.iconst 0, 1) := by decide +kernel
theorem dX12_one_44 : decode cX12_one 44 = .ok (.invokevirtual 201, 3) := by decide +kernel
theorem dX12_one_47 : decode cX12_one 47 = .ok (.ifCond .eq 8, 3) := by decide +kernel
theorem dX12_one_50 : decode cX12_one 50 = .ok (.bipush 7, 2) := by decide +kernel
theorem dX12_one_52 : decode cX12_one 52 = .ok (.goto 4, 3) := by decide +kernel
theorem dX12_one_55 : decode cX12_one 55 = .ok (.iconst (-1), 1) := by decide +kernel
theorem dX12_one_56 : decode cX12_one 56 = .ok (.istore_n 1, 1) := by decide +kernel
theorem dX12_one_57 : decode cX12_one 57 = .ok (.iload_n 1, 1) := by decide +kernel
theorem dX12_one_58 : decode cX12_one 58 = .ok (.iconst (-1), 1) := by decide +kernel
theorem dX12_one_59 : decode cX12_one 59 = .ok (.if_icmp .eq 58, 3) := by decide +kernel
theorem dX12_one_62 : decode cX12_one 62 = .ok (.aload_n 0, 1) := by decide +kernel
theorem dX12_one_63 : decode cX12_one 63 = .ok (.invokevirtual 291, 3) := by decide +kernel
theorem dX12_one_66 : decode cX12_one 66 = .ok (.ifCond .ne 4, 3) := by decide +kernel
theorem dX12_one_69 : decode cX12_one 69 = .ok (.return_, 1) := by decide +kernel
theorem dX12_one_70 : decode cX12_one 70 = .ok (.aload_n 0, 1) := by decide +kernel
theorem dX12_one_71 : decode cX12_one 71 = .ok (.invokevirtual 205, 3) := by decide +kernel
theorem dX12_one_74 : decode cX12_one 74 = .ok (.aload_n 0, 1) := by decide +kernel
theorem dX12_one_75 : decode cX12_one 75 = .ok (.bipush 91, 2) := by decide +kernel
theorem dX12_one_77 : decode cX12_one 77 = .ok (.invokevirtual 240, 3) := by decide +kernel
theorem dX12_one_80 : decode cX12_one 80 = .ok (.aload_n 0, 1) := by decide +kernel
theorem dX12_one_81 : decode cX12_one 81 = .ok (.invokevirtual 295, 3) := by decide +kernel
theorem dX12_one_84 : decode cX12_one 84 = .ok (.aload_n 0, 1) := by decide +kernel
theorem dX12_one_85 : decode cX12_one 85 = .ok (.bipush 44, 2) := by decide +kernel
theorem dX12_one_87 : decode cX12_one 87 = .ok (.invokevirtual 240, 3) := by decide +kernel
theorem dX12_one_90 : decode cX12_one 90 = .ok (.aload_n 0, 1) := by decide +kernel
theorem dX12_one_91 : decode cX12_one 91 = .ok (.invokevirtual 295, 3) := by decide +kernel
theorem dX12_one_94 : decode cX12_one 94 = .ok (.aload_n 0, 1) := by decide +kernel
theorem dX12_one_95 : decode cX12_one 95 = .ok (.bipush 93, 2) := by decide +kernel
theorem dX12_one_97 : decode cX12_one 97 = .ok (.invokevirtual 240, 3) := by decide +kernel
theorem dX12_one_100 : decode cX12_one 100 = .ok (.aload_n 0, 1) := by decide +kernel
theorem dX12_one_101 : decode cX12_one 101 = .ok (.iload_n 1, 1) := by decide +kernel
theorem dX12_one_102 : decode cX12_one 102 = .ok (.iconst 0, 1) := by decide +kernel
theorem dX12_one_103 : decode cX12_one 103 = .ok (.invokevirtual 285, 3) := by decide +kernel
theorem dX12_one_106 : decode cX12_one 106 = .ok (.aload_n 0, 1) := by decide +kernel
theorem dX12_one_107 : decode cX12_one 107 = .ok (.dup, 1) := by decide +kernel
theorem dX12_one_108 : decode cX12_one 108 = .ok (.getfield 211, 3) := by decide +kernel
theorem dX12_one_111 : decode cX12_one 111 = .ok (.iconst 1, 1) := by decide +kernel
theorem dX12_one_112 : decode cX12_one 112 = .ok (.isub, 1) := by decide +kernel
theorem dX12_one_113 : decode cX12_one 113 = .ok (.putfield 211, 3) := by decide +kernel
theorem dX12_one_116 : decode cX12_one 116 = .ok (.return_, 1) := by decide +kernel
theorem dX12_one_117 : decode cX12_one 117 = .ok (.aload_n 0, 1) := by decide +kernel
theorem dX12_one_118 : decode cX12_one 118 = .ok (.aload_n 0, 1) := by decide +kernel
theorem dX12_one_119 : decode cX12_one 119 = .ok (.getfield 161, 3) := by decide +kernel
theorem dX12_one_122 : decode cX12_one 122 = .ok (.invokevirtual 164, 3) := by decide +kernel
theorem dX12_one_125 : decode cX12_one 125 = .ok (.bipush 40, 2) := by decide +kernel
theorem dX12_one_127 : decode cX12_one 127 = .ok (.if_icmp .ne 42, 3) := by decide +kernel
theorem dX12_one_130 : decode cX12_one 130 = .ok (.aload_n 0, 1) := by decide +kernel
theorem dX12_one_131 : decode cX12_one 131 = .ok (.invokevirtual 291, 3) := by decide +kernel
theorem dX12_one_134 : decode cX12_one 134 = .ok (.ifCond .ne 4, 3) := by decide +kernel
theorem dX12_one_137 : decode cX12_one 137 = .ok (.return_, 1) := by decide +kernel
theorem dX12_one_138 : decode cX12_one 138 = .ok (.aload_n 0, 1) := by decide +kernel
theorem dX12_one_139 : decode cX12_one 139 = .ok (.dup, 1) := by decide +kernel
theorem dX12_one_140 : decode cX12_one 140 = .ok (.getfield 161, 3) := by decide +kernel
theorem dX12_one_143 : decode cX12_one 143 = .ok (.iconst 1, 1) := by decide +kernel
theorem dX12_one_144 : decode cX12_one 144 = .ok (.iadd, 1) := by decide +kernel
theorem dX12_one_145 : decode cX12_one 145 = .ok (.putfield 161, 3) := by decide +kernel
theorem dX12_one_148 : decode cX12_one 148 = .ok (.aload_n 0, 1) := by decide +kernel
theorem dX12_one_149 : decode cX12_one 149 = .ok (.invokevirtual 295, 3) := by decide +kernel
theorem dX12_one_152 : decode cX12_one 152 = .ok (.aload_n 0, 1) := by decide +kernel
theorem dX12_one_153 : decode cX12_one 153 = .ok (.bipush 41, 2) := by decide +kernel
theorem dX12_one_155 : decode cX12_one 155 = .ok (.invokevirtual 240, 3) := by decide +kernel
theorem dX12_one_158 : decode cX12_one 158 = .ok (.aload_n 0, 1) := by decide +kernel
theorem dX12_one_159 : decode cX12_one 159 = .ok (.dup, 1) := by decide +kernel
theorem dX12_one_160 : decode cX12_one 160 = .ok (.getfield 211, 3) := by decide +kernel
theorem dX12_one_163 : decode cX12_one 163 = .ok (.iconst 1, 1) := by decide +kernel
theorem dX12_one_164 : decode cX12_one 164 = .ok (.isub, 1) := by decide +kernel
theorem dX12_one_165 : decode cX12_one 165 = .ok (.putfield 211, 3) := by decide +kernel
theorem dX12_one_168 : decode cX12_one 168 = .ok (.return_, 1) := by decide +kernel
theorem dX12_one_169 : decode cX12_one 169 = .ok (.aload_n 0, 1) := by decide +kernel
theorem dX12_one_170 : decode cX12_one 170 = .ok (.bipush 19, 2) := by decide +kernel
theorem dX12_one_172 : decode cX12_one 172 = .ok (.bipush 8, 2) := by decide +kernel
theorem dX12_one_174 : decode cX12_one 174 = .ok (.iconst 1, 1) := by decide +kernel
theorem dX12_one_175 : decode cX12_one 175 = .ok (.iconst 4, 1) := by decide +kernel
theorem dX12_one_176 : decode cX12_one 176 = .ok (.iconst 5, 1) := by decide +kernel
theorem dX12_one_177 : decode cX12_one 177 = .ok (.bipush 19, 2) := by decide +kernel
theorem dX12_one_179 : decode cX12_one 179 = .ok (.invokevirtual 298, 3) := by decide +kernel
theorem dX12_one_182 : decode cX12_one 182 = .ok (.ifCond .eq 7, 3) := by decide +kernel
theorem dX12_one_185 : decode cX12_one 185 = .ok (.iconst 0, 1) := by decide +kernel
theorem dX12_one_186 : decode cX12_one 186 = .ok (.goto 65, 3) := by decide +kernel
theorem dX12_one_189 : decode cX12_one 189 = .ok (.aload_n 0, 1) := by decide +kernel
theorem dX12_one_190 : decode cX12_one 190 = .ok (.bipush 20, 2) := by decide +kernel
theorem dX12_one_192 : decode cX12_one 192 = .ok (.iconst 1, 1) := by decide +kernel
theorem dX12_one_193 : decode cX12_one 193 = .ok (.bipush 12, 2) := by decide +kernel
theorem dX12_one_195 : decode cX12_one 195 = .ok (.bipush 12, 2) := by decide +kernel
theorem dX12_one_197 : decode cX12_one 197 = .ok (.iconst 0, 1) := by decide +kernel
theorem dX12_one_198 : decode cX12_one 198 = .ok (.iconst 0, 1) := by decide +kernel
theorem dX12_one_199 : decode cX12_one 199 = .ok (.invokevirtual 298, 3) := by decide +kernel
theorem dX12_one_202 : decode cX12_one 202 = .ok (.ifCond .eq 7, 3) := by decide +kernel
theorem dX12_one_205 : decode cX12_one 205 = .ok (.iconst 1, 1) := by decide +kernel
theorem dX12_one_206 : decode cX12_one 206 = .ok (.goto 45, 3) := by decide +kernel
theorem dX12_one_209 : decode cX12_one 209 = .ok (.aload_n 0, 1) := by decide +kernel
theorem dX12_one_210 : decode cX12_one 210 = .ok (.bipush 8, 2) := by decide +kernel
theorem dX12_one_212 : decode cX12_one 212 = .ok (.bipush 15, 2) := by decide +kernel
theorem dX12_one_214 : decode cX12_one 214 = .ok (.bipush 21, 2) := by decide +kernel
theorem dX12_one_216 : decode cX12_one 216 = .ok (.bipush 18, 2) := by decide +kernel
theorem dX12_one_218 : decode cX12_one 218 = .ok (.iconst 0, 1) := by decide +kernel
theorem dX12_one_219 : decode cX12_one 219 = .ok (.iconst 0, 1) := by decide +kernel
theorem dX12_one_220 : decode cX12_one 220 = .ok (.invokevirtual 298, 3) := by decide +kernel
theorem dX12_one_223 : decode cX12_one 223 = .ok (.ifCond .eq 7, 3) := by decide +kernel
theorem dX12_one_226 : decode cX12_one 226 = .ok (.iconst 2, 1) := by decide +kernel
theorem dX12_one_227 : decode cX12_one 227 = .ok (.goto 24, 3) := by decide +kernel
theorem dX12_one_230 : decode cX12_one 230 = .ok (.aload_n 0, 1) := by decide +kernel
theorem dX12_one_231 : decode cX12_one 231 = .ok (.bipush 12, 2) := by decide +kernel
theorem dX12_one_233 : decode cX12_one 233 = .ok (.iconst 1, 1) := by decide +kernel
theorem dX12_one_234 : decode cX12_one 234 = .ok (.bipush 13, 2) := by decide +kernel
theorem dX12_one_236 : decode cX12_one 236 = .ok (.bipush 16, 2) := by decide +kernel
theorem dX12_one_238 : decode cX12_one 238 = .ok (.iconst 0, 1) := by decide +kernel
theorem dX12_one_239 : decode cX12_one 239 = .ok (.iconst 0, 1) := by decide +kernel
theorem dX12_one_240 : decode cX12_one 240 = .ok (.invokevirtual 298, 3) := by decide +kernel
theorem dX12_one_243 : decode cX12_one 243 = .ok (.ifCond .eq 7, 3) := by decide +kernel
theorem dX12_one_246 : decode cX12_one 246 = .ok (.iconst 3, 1) := by decide +kernel
theorem dX12_one_247 : decode cX12_one 247 = .ok (.goto 4, 3) := by decide +kernel
theorem dX12_one_250 : decode cX12_one 250 = .ok (.iconst (-1), 1) := by decide +kernel
theorem dX12_one_251 : decode cX12_one 251 = .ok (.istore_n 2, 1) := by decide +kernel
theorem dX12_one_252 : decode cX12_one 252 = .ok (.iload_n 2, 1) := by decide +kernel
theorem dX12_one_253 : decode cX12_one 253 = .ok (.iconst (-1), 1) := by decide +kernel
theorem dX12_one_254 : decode cX12_one 254 = .ok (.if_icmp .eq 12, 3) := by decide +kernel
theorem dX12_one_257 : decode cX12_one 257 = .ok (.aload_n 0, 1) := by decide +kernel
theorem dX12_one_258 : decode cX12_one 258 = .ok (.iconst 1, 1) := by decide +kernel
theorem dX12_one_259 : decode cX12_one 259 = .ok (.iload_n 2, 1) := by decide +kernel
theorem dX12_one_260 : decode cX12_one 260 = .ok (.invokevirtual 285, 3) := by decide +kernel
theorem dX12_one_263 : decode cX12_one 263 = .ok (.goto 16, 3) := by decide +kernel
theorem dX12_one_266 : decode cX12_one 266 = .ok (.aload_n 0, 1) := by decide +kernel
theorem dX12_one_267 : decode cX12_one 267 = .ok (.iconst 0, 1) := by decide +kernel
theorem dX12_one_268 : decode cX12_one 268 = .ok (.aload_n 0, 1) := by decide +kernel
theorem dX12_one_269 : decode cX12_one 269 = .ok (.iconst 0, 1) := by decide +kernel
theorem dX12_one_270 : decode cX12_one 270 = .ok (.sipush 999, 3) := by decide +kernel
theorem dX12_one_273 : decode cX12_one 273 = .ok (.invokevirtual 217, 3) := by decide +kernel
theorem dX12_one_276 : decode cX12_one 276 = .ok (.invokevirtual 285, 3) := by decide +kernel
theorem dX12_one_279 : decode cX12_one 279 = .ok (.return_, 1) := by decide +kernel
theorem c12_unit0 {g : Gw} (hG : GF g) {z : Bool} (B : Nat → Int) (n : Nat) (hn : n ≤ 150) (E S : Mm) (t : TS) (L : LW) (hS_S : RLP B n 6 E S (t, L)) : CT g yX12_one cX12_one 3 none 5 116 0 0 K2 z [mR 125] (ov S) K2 z (fun r D' => r = none ∧ ∃ E1, D' = ov E1 ∧ RLP B n 6 E E1 (unF B n true id (t, L))) := by
  refine CT.mk hG (by decide +kernel) (Nat.le_of_ble_eq_true rfl) (fun κ X Rt _ ok => ?_)
  have hO : OKt n t := hS_S.2.1
  refine at_aload_n 1 X rfl rfl dX12_one_0 rfl ?_
  refine m_getIV 4 X t.2.2.1 (rfk hS_S.1) f_X12_168 k_125 rn_125_5 dX12_one_1 rfl ?_
  refine at_if_eq 7 8 X dX12_one_4 rfl (by decide) (fun h4 => ?_) (fun h4 => ?_)
  · have h0 : t.2.2.1 = 0 := by first | exact h4 | exact Decidable.byContradiction h4
    refine at_aload_n 9 X rfl rfl dX12_one_8 rfl ?_
    refine at_callV 12 X _ 12 (c12_bl hG S B n t hS_S.1) clX12 rfl k_125 mo_X12_blanks w_1968 vo_X12_blanks.1 vo_X12_blanks.2 rfl rfl (crm Rt ⟨by omega, by omega, by omega, by omega⟩) (Nat.le_of_ble_eq_true rfl) dX12_one_9 rfl ?_
    rintro _ _ ⟨rfl, A1, rfl, hP_A1, hf_A1, hat_A1⟩
    have hS_A1 : RLP B n 6 E A1 (t, L) := RLP.tape hS_S hP_A1 hf_A1 hO (fun q => ⟨q, Nat.le_refl _⟩)
    refine at_aload_n 13 X rfl rfl dX12_one_12 rfl ?_
    refine at_bipush 15 X (by decide) (by decide) dX12_one_13 rfl ?_
    refine at_iconst 16 X (by decide) dX12_one_15 rfl ?_
    refine at_iconst 17 X (by decide) dX12_one_16 rfl ?_
    refine at_bipush 19 X (by decide) (by decide) dX12_one_17 rfl ?_
    refine at_bipush 21 X (by decide) (by decide) dX12_one_19 rfl ?_
    refine at_iconst 22 X (by decide) dX12_one_21 rfl ?_
    refine at_callV 25 X _ 12 (ct_X12_isWord hG A1 B n t hO.2 hS_A1.1 12 5 1 19 20 0 (by decide) [108, 101, 97, 115, 116] (by decide) (by decide)) clX12 rfl k_125 mo_X12_isWord w_1984 vo_X12_isWord.1 vo_X12_isWord.2 rfl rfl (crm Rt ⟨by omega, by omega, by omega, by omega⟩) (Nat.le_of_ble_eq_true rfl) dX12_one_22 rfl ?_
    rintro _ _ ⟨rfl, A2, rfl, hP_A2, hf_A2, hat_A2⟩
    have hS_A2 : RLP B n 6 E A2 (t, L) := RLP.tape hS_A1 hP_A2 hf_A2 hO (fun q => ⟨q, Nat.le_refl _⟩)
    refine at_if_eq 28 33 X dX12_one_25 rfl (by decide) (fun h25 => ?_) (fun h25 => ?_)
    · have h25 : ¬ (t.2.2.1 = 0 ∧ wdB B (twT B n t) [108, 101, 97, 115, 116] = true) := ite_no.mp h25
      refine at_aload_n 34 X rfl rfl dX12_one_33 rfl ?_
      refine at_bipush 36 X (by decide) (by decide) dX12_one_34 rfl ?_
      refine at_bipush 38 X (by decide) (by decide) dX12_one_36 rfl ?_
      refine at_bipush 40 X (by decide) (by decide) dX12_one_38 rfl ?_
      refine at_bipush 42 X (by decide) (by decide) dX12_one_40 rfl ?_
      refine at_iconst 43 X (by decide) dX12_one_42 rfl ?_
      refine at_iconst 44 X (by decide) dX12_one_43 rfl ?_
      refine at_callV 47 X _ 12 (ct_X12_isWord hG A2 B n t hO.2 hS_A2.1 13 15 19 20 0 0 (by decide) [109, 111, 115, 116] (by decide) (by decide)) clX12 rfl k_125 mo_X12_isWord w_1984 vo_X12_isWord.1 vo_X12_isWord.2 rfl rfl (crm Rt ⟨by omega, by omega, by omega, by omega⟩) (Nat.le_of_ble_eq_true rfl) dX12_one_44 rfl ?_
      rintro _ _ ⟨rfl, A3, rfl, hP_A3, hf_A3, hat_A3⟩
      have hS_A3 : RLP B n 6 E A3 (t, L) := RLP.tape hS_A2 hP_A3 hf_A3 hO (fun q => ⟨q, Nat.le_refl _⟩)
      refine at_if_eq 50 55 X dX12_one_47 rfl (by decide) (fun h47 => ?_) (fun h47 => ?_)
      · have h47 : ¬ (t.2.2.1 = 0 ∧ wdB B (twT B n t) [109, 111, 115, 116] = true) := ite_no.mp h47
        refine at_iconst 56 X (by decide) dX12_one_55 rfl ?_
        refine at_istore_n 57 X rfl dX12_one_56 rfl (by decide) ?_
        refine at_iload_n 58 X rfl rfl dX12_one_57 rfl ?_
        refine at_iconst 59 X (by decide) dX12_one_58 rfl ?_
        refine at_icmp_eq 62 117 X dX12_one_59 rfl (by decide) (fun h59 => ?_) (fun h59 => ?_)
        · refine at_aload_n 118 X rfl rfl dX12_one_117 rfl ?_
          refine at_aload_n 119 X rfl rfl dX12_one_118 rfl ?_
          refine m_getIV 122 X ((sk B n t.1 : Nat) : Int) (hat_A3 h0) f_X12_161 k_125 rn_125_4 dX12_one_119 rfl ?_
          refine at_callV 125 X _ 12 (c12_byteP hG A3 B n t hS_A3.1 (sk B n t.1)) clX12 rfl k_125 mo_X12_byteAt w_1972 vo_X12_byteAt.1 vo_X12_byteAt.2 rfl rfl (crm Rt ⟨by omega, by omega, by omega, by omega⟩) (Nat.le_of_ble_eq_true rfl) dX12_one_122 rfl ?_
          rintro _ _ ⟨rfl, rfl⟩
          refine at_bipush 127 X (by decide) (by decide) dX12_one_125 rfl ?_
          refine at_icmp_ne 130 169 X dX12_one_127 rfl (by decide) (fun h127 => ?_) (fun h127 => ?_)
          · have hbr : ¬ isA B n (sk B n t.1) 40 40 := fun q => absurd ((bAt_is (n := n) (by decide)).mpr q) (by omega)
            refine at_aload_n 170 X rfl rfl dX12_one_169 rfl ?_
            refine at_bipush 172 X (by decide) (by decide) dX12_one_170 rfl ?_
            refine at_bipush 174 X (by decide) (by decide) dX12_one_172 rfl ?_
            refine at_iconst 175 X (by decide) dX12_one_174 rfl ?_
            refine at_iconst 176 X (by decide) dX12_one_175 rfl ?_
            refine at_iconst 177 X (by decide) dX12_one_176 rfl ?_
            refine at_bipush 179 X (by decide) (by decide) dX12_one_177 rfl ?_
            refine at_callV 182 X _ 12 (ct_X12_takes hG A3 B n t hO.2 hS_A3.1 19 8 1 4 5 19 (by decide) [115, 104, 97, 100, 101, 115] (by decide) (by decide)) clX12 rfl k_125 mo_X12_takes w_2062 vo_X12_takes.1 vo_X12_takes.2 rfl rfl (crm Rt ⟨by omega, by omega, by omega, by omega⟩) (Nat.le_of_ble_eq_true rfl) dX12_one_179 rfl ?_
            rintro _ _ ⟨rfl, T1, rfl, hy_T1, hn_T1, hf_T1⟩
            refine at_if_eq 185 189 X dX12_one_182 rfl (by decide) (fun h182 => ?_) (fun h182 => ?_)
            · have h182 : ¬ (t.2.2.1 = 0 ∧ wdB B (twT B n t) [115, 104, 97, 100, 101, 115] = true) := ite_no.mp h182
              have hS_T1 : RLP B n 6 E T1 (t, L) := RLP.tape hS_A3 (hn_T1 h182).1 hf_T1 hO (fun q => ⟨q, Nat.le_refl _⟩)
              refine at_aload_n 190 X rfl rfl dX12_one_189 rfl ?_
              refine at_bipush 192 X (by decide) (by decide) dX12_one_190 rfl ?_
              refine at_iconst 193 X (by decide) dX12_one_192 rfl ?_
              refine at_bipush 195 X (by decide) (by decide) dX12_one_193 rfl ?_
              refine at_bipush 197 X (by decide) (by decide) dX12_one_195 rfl ?_
              refine at_iconst 198 X (by decide) dX12_one_197 rfl ?_
              refine at_iconst 199 X (by decide) dX12_one_198 rfl ?_
              refine at_callV 202 X _ 12 (ct_X12_takes hG T1 B n t hO.2 hS_T1.1 20 1 12 12 0 0 (by decide) [116, 97, 108, 108] (by decide) (by decide)) clX12 rfl k_125 mo_X12_takes w_2062 vo_X12_takes.1 vo_X12_takes.2 rfl rfl (crm Rt ⟨by omega, by omega, by omega, by omega⟩) (Nat.le_of_ble_eq_true rfl) dX12_one_199 rfl ?_
              rintro _ _ ⟨rfl, T2, rfl, hy_T2, hn_T2, hf_T2⟩
              refine at_if_eq 205 209 X dX12_one_202 rfl (by decide) (fun h202 => ?_) (fun h202 => ?_)
              · have h202 : ¬ (t.2.2.1 = 0 ∧ wdB B (twT B n t) [116, 97, 108, 108] = true) := ite_no.mp h202
                have hS_T2 : RLP B n 6 E T2 (t, L) := RLP.tape hS_T1 (hn_T2 h202).1 hf_T2 hO (fun q => ⟨q, Nat.le_refl _⟩)
                refine at_aload_n 210 X rfl rfl dX12_one_209 rfl ?_
                refine at_bipush 212 X (by decide) (by decide) dX12_one_210 rfl ?_
                refine at_bipush 214 X (by decide) (by decide) dX12_one_212 rfl ?_
                refine at_bipush 216 X (by decide) (by decide) dX12_one_214 rfl ?_
                refine at_bipush 218 X (by decide) (by decide) dX12_one_216 rfl ?_
                refine at_iconst 219 X (by decide) dX12_one_218 rfl ?_
                refine at_iconst 220 X (by decide) dX12_one_219 rfl ?_
                refine at_callV 223 X _ 12 (ct_X12_takes hG T2 B n t hO.2 hS_T2.1 8 15 21 18 0 0 (by decide) [104, 111, 117, 114] (by decide) (by decide)) clX12 rfl k_125 mo_X12_takes w_2062 vo_X12_takes.1 vo_X12_takes.2 rfl rfl (crm Rt ⟨by omega, by omega, by omega, by omega⟩) (Nat.le_of_ble_eq_true rfl) dX12_one_220 rfl ?_
                rintro _ _ ⟨rfl, T3, rfl, hy_T3, hn_T3, hf_T3⟩
                refine at_if_eq 226 230 X dX12_one_223 rfl (by decide) (fun h223 => ?_) (fun h223 => ?_)
                · have h223 : ¬ (t.2.2.1 = 0 ∧ wdB B (twT B n t) [104, 111, 117, 114] = true) := ite_no.mp h223
                  have hS_T3 : RLP B n 6 E T3 (t, L) := RLP.tape hS_T2 (hn_T3 h223).1 hf_T3 hO (fun q => ⟨q, Nat.le_refl _⟩)
                  refine at_aload_n 231 X rfl rfl dX12_one_230 rfl ?_
                  refine at_bipush 233 X (by decide) (by decide) dX12_one_231 rfl ?_
                  refine at_iconst 234 X (by decide) dX12_one_233 rfl ?_
                  refine at_bipush 236 X (by decide) (by decide) dX12_one_234 rfl ?_
                  refine at_bipush 238 X (by decide) (by decide) dX12_one_236 rfl ?_
                  refine at_iconst 239 X (by decide) dX12_one_238 rfl ?_
                  refine at_iconst 240 X (by decide) dX12_one_239 rfl ?_
                  refine at_callV 243 X _ 12 (ct_X12_takes hG T3 B n t hO.2 hS_T3.1 12 1 13 16 0 0 (by decide) [108, 97, 109, 112] (by decide) (by decide)) clX12 rfl k_125 mo_X12_takes w_2062 vo_X12_takes.1 vo_X12_takes.2 rfl rfl (crm Rt ⟨by omega, by omega, by omega, by omega⟩) (Nat.le_of_ble_eq_true rfl) dX12_one_240 rfl ?_
                  rintro _ _ ⟨rfl, T4, rfl, hy_T4, hn_T4, hf_T4⟩
                  refine at_if_eq 246 250 X dX12_one_243 rfl (by decide) (fun h243 => ?_) (fun h243 => ?_)
                  · have h243 : ¬ (t.2.2.1 = 0 ∧ wdB B (twT B n t) [108, 97, 109, 112] = true) := ite_no.mp h243
                    have hS_T4 : RLP B n 6 E T4 (t, L) := RLP.tape hS_T3 (hn_T4 h243).1 hf_T4 hO (fun q => ⟨q, Nat.le_refl _⟩)
                    refine at_iconst 251 X (by decide) dX12_one_250 rfl ?_
                    refine at_istore_n 252 X rfl dX12_one_251 rfl (by decide) ?_
                    refine at_iload_n 253 X rfl rfl dX12_one_252 rfl ?_
                    refine at_iconst 254 X (by decide) dX12_one_253 rfl ?_
                    refine at_icmp_eq 257 266 X dX12_one_254 rfl (by decide) (fun h254 => ?_) (fun h254 => ?_)
                    · refine at_aload_n 267 X rfl rfl dX12_one_266 rfl ?_
                      refine at_iconst 268 X (by decide) dX12_one_267 rfl ?_
                      refine at_aload_n 269 X rfl rfl dX12_one_268 rfl ?_
                      refine at_iconst 270 X (by decide) dX12_one_269 rfl ?_
                      refine at_sipush 273 X (by decide) (by decide) dX12_one_270 rfl ?_
                      refine at_callV 276 X _ 12 (c12_nu hG T4 B n t hS_T4.1 0 999 (by omega) (by omega)) clX12 rfl k_125 mo_X12_number w_2010 vo_X12_number.1 vo_X12_number.2 rfl rfl (crm Rt ⟨by omega, by omega, by omega, by omega⟩) (Nat.le_of_ble_eq_true rfl) dX12_one_273 rfl ?_
                      rintro _ _ ⟨rfl, N1, rfl, hP_N1, hf_N1⟩
                      have hS_N1 : RLP B n 6 E N1 (nuT B n t 0 999, L) := RLP.tape hS_T4 hP_N1 hf_N1 (nuT_ok hO) (fun q => nu_fw hO q)
                      refine at_callV 279 X _ 12 (c12_says hG B n hn 6 E N1 (nuT B n t 0 999) L hS_N1 0 ((nuV B n t 0 999 : Nat) : Int) ((nuR B n t 0 999 : Nat) : Int) 0 (by decide) (by decide) (fun _ q => by rw [nuR_eq q]) (fun q => absurd q (by decide)) (fun q => by
                          have := (nu_ok q).2.2
                          have hLt : L.1 ≤ t.1 := (hS_S.2.2.1 h0).1
                          have := sk_in B hO.2
                          omega)) clX12 rfl k_125 mo_X12_says w_2058 vo_X12_says.1 vo_X12_says.2 rfl rfl (crm Rt ⟨by omega, by omega, by omega, by omega⟩) (Nat.le_of_ble_eq_true rfl) dX12_one_276 rfl ?_
                      rintro _ _ ⟨rfl, N2, rfl, hS_N2⟩
                      refine at_vret X Rt ?_ (Nat.le_refl _) (Nat.le_refl _) dX12_one_279
                      by_cases hd : isA B n (sk B n t.1) 48 57
                      · exact ⟨rfl, N2, rfl, hS_N2.eq (unF_dig h0 hd).symm⟩
                      · have hw11 : woW B (twT B n t) = 11 := by
                          unfold woW
                          rw [if_neg (fun q => h182 ⟨h0, q⟩), if_neg (fun q => h202 ⟨h0, q⟩), if_neg (fun q => h223 ⟨h0, q⟩), if_neg (fun q => h243 ⟨h0, q⟩), if_neg (fun q => h25 ⟨h0, q⟩), if_neg (fun q => h47 ⟨h0, q⟩)]
                        have hn1 := nu_nd (B := B) (n := n) (lo := 0) (hi := 999) h0 hd
                        refine ⟨rfl, N2, rfl, ?_⟩
                        rw [unF_unk h0 hd hbr hw11]
                        exact RLP.bad hS_N2 (fun q => by rw [show (nuT B n t 0 999, addW L 0 ((nuV B n t 0 999 : Nat) : Int)).1 = nuT B n t 0 999 from rfl, hn1] at q; exact absurd (show (1 : Int) = 0 from q) (by decide)) (flT_ok (twT_ok hO)) ((flT_tw h0 1).trans hn1.symm)
                    · exact absurd h254 (by decide)
                  · have h243 : (t.2.2.1 = 0 ∧ wdB B (twT B n t) [108, 97, 109, 112] = true) := ite_yes.mp h243
                    have hS_T4 : RLP B n 6 E T4 (twT B n t, L) := RLP.tape hS_T3 (hy_T4 h243) hf_T4 (twT_ok hO) (fun q => tw_fw hO q)
                    have hwo := wo_4 h243.2
                    have hnd := wd_nd h0 (by decide) h243.2
                    refine at_iconst 247 X (by decide) dX12_one_246 rfl ?_
                    refine at_goto 251 X dX12_one_247 (by decide) ?_
                    refine at_istore_n 252 X rfl dX12_one_251 rfl (by decide) ?_
                    refine at_iload_n 253 X rfl rfl dX12_one_252 rfl ?_
                    refine at_iconst 254 X (by decide) dX12_one_253 rfl ?_
                    refine at_icmp_eq 257 266 X dX12_one_254 rfl (by decide) (fun h254 => ?_) (fun h254 => ?_)
                    · exact absurd h254 (by decide)
                    · refine at_aload_n 258 X rfl rfl dX12_one_257 rfl ?_
                      refine at_iconst 259 X (by decide) dX12_one_258 rfl ?_
                      refine at_iload_n 260 X rfl rfl dX12_one_259 rfl ?_
                      refine at_callV 263 X _ 12 (c12_says hG B n hn 6 E T4 (twT B n t) L hS_T4 4 0 3 1 (by decide) (by decide) (fun q => absurd q (by decide)) (fun _ _ => rfl) (fun q => by
                          have q1 := (twT_len h0 hwo)
                          have hLt : L.1 ≤ t.1 := (hS_S.2.2.1 h0).1
                          have := sk_in B hO.2
                          omega)) clX12 rfl k_125 mo_X12_says w_2058 vo_X12_says.1 vo_X12_says.2 rfl rfl (crm Rt ⟨by omega, by omega, by omega, by omega⟩) (Nat.le_of_ble_eq_true rfl) dX12_one_260 rfl ?_
                      rintro _ _ ⟨rfl, T8, rfl, hS_T8⟩
                      refine at_goto 279 X dX12_one_263 (by decide) ?_
                      refine at_vret X Rt ?_ (Nat.le_refl _) (Nat.le_refl _) dX12_one_279
                      refine ⟨rfl, T8, rfl, hS_T8.eq ?_⟩
                      rw [unF_wd h0 hnd.1 hnd.2 (by omega) (by omega), hwo]
                · have h223 : (t.2.2.1 = 0 ∧ wdB B (twT B n t) [104, 111, 117, 114] = true) := ite_yes.mp h223
                  have hS_T3 : RLP B n 6 E T3 (twT B n t, L) := RLP.tape hS_T2 (hy_T3 h223) hf_T3 (twT_ok hO) (fun q => tw_fw hO q)
                  have hwo := wo_3 h223.2
                  have hnd := wd_nd h0 (by decide) h223.2
                  refine at_iconst 227 X (by decide) dX12_one_226 rfl ?_
                  refine at_goto 251 X dX12_one_227 (by decide) ?_
                  refine at_istore_n 252 X rfl dX12_one_251 rfl (by decide) ?_
                  refine at_iload_n 253 X rfl rfl dX12_one_252 rfl ?_
                  refine at_iconst 254 X (by decide) dX12_one_253 rfl ?_
                  refine at_icmp_eq 257 266 X dX12_one_254 rfl (by decide) (fun h254 => ?_) (fun h254 => ?_)
                  · exact absurd h254 (by decide)
                  · refine at_aload_n 258 X rfl rfl dX12_one_257 rfl ?_
                    refine at_iconst 259 X (by decide) dX12_one_258 rfl ?_
                    refine at_iload_n 260 X rfl rfl dX12_one_259 rfl ?_
                    refine at_callV 263 X _ 12 (c12_says hG B n hn 6 E T3 (twT B n t) L hS_T3 3 0 2 1 (by decide) (by decide) (fun q => absurd q (by decide)) (fun _ _ => rfl) (fun q => by
                        have q1 := (twT_len h0 hwo)
                        have hLt : L.1 ≤ t.1 := (hS_S.2.2.1 h0).1
                        have := sk_in B hO.2
                        omega)) clX12 rfl k_125 mo_X12_says w_2058 vo_X12_says.1 vo_X12_says.2 rfl rfl (crm Rt ⟨by omega, by omega, by omega, by omega⟩) (Nat.le_of_ble_eq_true rfl) dX12_one_260 rfl ?_
                    rintro _ _ ⟨rfl, T8, rfl, hS_T8⟩
                    refine at_goto 279 X dX12_one_263 (by decide) ?_
                    refine at_vret X Rt ?_ (Nat.le_refl _) (Nat.le_refl _) dX12_one_279
                    refine ⟨rfl, T8, rfl, hS_T8.eq ?_⟩
                    rw [unF_wd h0 hnd.1 hnd.2 (by omega) (by omega), hwo]
              · have h202 : (t.2.2.1 = 0 ∧ wdB B (twT B n t) [116, 97, 108, 108] = true) := ite_yes.mp h202
                have hS_T2 : RLP B n 6 E T2 (twT B n t, L) := RLP.tape hS_T1 (hy_T2 h202) hf_T2 (twT_ok hO) (fun q => tw_fw hO q)
                have hwo := wo_2 h202.2
                have hnd := wd_nd h0 (by decide) h202.2
                refine at_iconst 206 X (by decide) dX12_one_205 rfl ?_
                refine at_goto 251 X dX12_one_206 (by decide) ?_
                refine at_istore_n 252 X rfl dX12_one_251 rfl (by decide) ?_
                refine at_iload_n 253 X rfl rfl dX12_one_252 rfl ?_
                refine at_iconst 254 X (by decide) dX12_one_253 rfl ?_
                refine at_icmp_eq 257 266 X dX12_one_254 rfl (by decide) (fun h254 => ?_) (fun h254 => ?_)
                · exact absurd h254 (by decide)
                · refine at_aload_n 258 X rfl rfl dX12_one_257 rfl ?_
                  refine at_iconst 259 X (by decide) dX12_one_258 rfl ?_
                  refine at_iload_n 260 X rfl rfl dX12_one_259 rfl ?_
                  refine at_callV 263 X _ 12 (c12_says hG B n hn 6 E T2 (twT B n t) L hS_T2 2 0 1 1 (by decide) (by decide) (fun q => absurd q (by decide)) (fun _ _ => rfl) (fun q => by
                      have q1 := (twT_len h0 hwo)
                      have hLt : L.1 ≤ t.1 := (hS_S.2.2.1 h0).1
                      have := sk_in B hO.2
                      omega)) clX12 rfl k_125 mo_X12_says w_2058 vo_X12_says.1 vo_X12_says.2 rfl rfl (crm Rt ⟨by omega, by omega, by omega, by omega⟩) (Nat.le_of_ble_eq_true rfl) dX12_one_260 rfl ?_
                  rintro _ _ ⟨rfl, T8, rfl, hS_T8⟩
                  refine at_goto 279 X dX12_one_263 (by decide) ?_
                  refine at_vret X Rt ?_ (Nat.le_refl _) (Nat.le_refl _) dX12_one_279
                  refine ⟨rfl, T8, rfl, hS_T8.eq ?_⟩
                  rw [unF_wd h0 hnd.1 hnd.2 (by omega) (by omega), hwo]
            · have h182 : (t.2.2.1 = 0 ∧ wdB B (twT B n t) [115, 104, 97, 100, 101, 115] = true) := ite_yes.mp h182
              have hS_T1 : RLP B n 6 E T1 (twT B n t, L) := RLP.tape hS_A3 (hy_T1 h182) hf_T1 (twT_ok hO) (fun q => tw_fw hO q)
              have hwo := wo_1 h182.2
              have hnd := wd_nd h0 (by decide) h182.2
              refine at_iconst 186 X (by decide) dX12_one_185 rfl ?_
              refine at_goto 251 X dX12_one_186 (by decide) ?_
              refine at_istore_n 252 X rfl dX12_one_251 rfl (by decide) ?_
              refine at_iload_n 253 X rfl rfl dX12_one_252 rfl ?_
              refine at_iconst 254 X (by decide) dX12_one_253 rfl ?_
              refine at_icmp_eq 257 266 X dX12_one_254 rfl (by decide) (fun h254 => ?_) (fun h254 => ?_)
              · exact absurd h254 (by decide)
              · refine at_aload_n 258 X rfl rfl dX12_one_257 rfl ?_
                refine at_iconst 259 X (by decide) dX12_one_258 rfl ?_
                refine at_iload_n 260 X rfl rfl dX12_one_259 rfl ?_
                refine at_callV 263 X _ 12 (c12_says hG B n hn 6 E T1 (twT B n t) L hS_T1 1 0 0 1 (by decide) (by decide) (fun q => absurd q (by decide)) (fun _ _ => rfl) (fun q => by
                    have q1 := (twT_len h0 hwo)
                    have hLt : L.1 ≤ t.1 := (hS_S.2.2.1 h0).1
                    have := sk_in B hO.2
                    omega)) clX12 rfl k_125 mo_X12_says w_2058 vo_X12_says.1 vo_X12_says.2 rfl rfl (crm Rt ⟨by omega, by omega, by omega, by omega⟩) (Nat.le_of_ble_eq_true rfl) dX12_one_260 rfl ?_
                rintro _ _ ⟨rfl, T8, rfl, hS_T8⟩
                refine at_goto 279 X dX12_one_263 (by decide) ?_
                refine at_vret X Rt ?_ (Nat.le_refl _) (Nat.le_refl _) dX12_one_279
                refine ⟨rfl, T8, rfl, hS_T8.eq ?_⟩
                rw [unF_wd h0 hnd.1 hnd.2 (by omega) (by omega), hwo]
          · have hbr : isA B n (sk B n t.1) 40 40 := (bAt_is (by decide)).mp (by omega)
            have hbd : ¬ isA B n (sk B n t.1) 48 57 := fun q => by have := q.2; have := hbr.2; omega
            refine at_aload_n 131 X rfl rfl dX12_one_130 rfl ?_
            refine at_callV 134 X _ 12 (c12_opens0 hG E B n 6 A3 t L hS_A3 h0 (hat_A3 h0) rfl (flT (goT B n t) 3) (flT_ok (goT_ok hO)) (flT_go h0 3)) clX12 rfl k_125 mo_X12_opens w_2054 vo_X12_opens.1 vo_X12_opens.2 rfl rfl (crm Rt ⟨by omega, by omega, by omega, by omega⟩) (Nat.le_of_ble_eq_true rfl) dX12_one_131 rfl ?_
            rintro _ _ ⟨rfl, B2, rfl, hS_B2⟩
            refine at_if_ne 137 138 X dX12_one_134 rfl (by decide) (fun h134 => ?_) (fun h134 => ?_)
            · exact absurd h134 (by decide)
            · refine at_vret X Rt ?_ (Nat.le_refl _) (Nat.le_refl _) dX12_one_137
              exact ⟨rfl, B2, rfl, hS_B2.eq (unF_brz h0 hbd hbr).symm⟩
        · exact absurd h59 (by decide)
      · have h47 : (t.2.2.1 = 0 ∧ wdB B (twT B n t) [109, 111, 115, 116] = true) := ite_yes.mp h47
        have hwo := wo_10 h47.2
        have hnd := wd_nd h0 (by decide) h47.2
        refine at_bipush 52 X (by decide) (by decide) dX12_one_50 rfl ?_
        refine at_goto 56 X dX12_one_52 (by decide) ?_
        refine at_istore_n 57 X rfl dX12_one_56 rfl (by decide) ?_
        refine at_iload_n 58 X rfl rfl dX12_one_57 rfl ?_
        refine at_iconst 59 X (by decide) dX12_one_58 rfl ?_
        refine at_icmp_eq 62 117 X dX12_one_59 rfl (by decide) (fun h59 => ?_) (fun h59 => ?_)
        · exact absurd h59 (by decide)
        · refine at_aload_n 63 X rfl rfl dX12_one_62 rfl ?_
          refine at_callV 66 X _ 12 (c12_opens0 hG E B n 6 A3 t L hS_A3 h0 (hat_A3 h0) rfl (flT (twT B n t) 3) (flT_ok (twT_ok hO)) (flT_tw h0 3)) clX12 rfl k_125 mo_X12_opens w_2054 vo_X12_opens.1 vo_X12_opens.2 rfl rfl (crm Rt ⟨by omega, by omega, by omega, by omega⟩) (Nat.le_of_ble_eq_true rfl) dX12_one_63 rfl ?_
          rintro _ _ ⟨rfl, B1, rfl, hS_B1⟩
          refine at_if_ne 69 70 X dX12_one_66 rfl (by decide) (fun h66 => ?_) (fun h66 => ?_)
          · exact absurd h66 (by decide)
          · refine at_vret X Rt ?_ (Nat.le_refl _) (Nat.le_refl _) dX12_one_69
            exact ⟨rfl, B1, rfl, hS_B1.eq (unF_w3z h0 hnd.1 hnd.2 (by omega) (by omega)).symm⟩
    · have h25 : (t.2.2.1 = 0 ∧ wdB B (twT B n t) [108, 101, 97, 115, 116] = true) := ite_yes.mp h25
      have hwo := wo_9 h25.2
      have hnd := wd_nd h0 (by decide) h25.2
      refine at_bipush 30 X (by decide) (by decide) dX12_one_28 rfl ?_
      refine at_goto 56 X dX12_one_30 (by decide) ?_
      refine at_istore_n 57 X rfl dX12_one_56 rfl (by decide) ?_
      refine at_iload_n 58 X rfl rfl dX12_one_57 rfl ?_
      refine at_iconst 59 X (by decide) dX12_one_58 rfl ?_
      refine at_icmp_eq 62 117 X dX12_one_59 rfl (by decide) (fun h59 => ?_) (fun h59 => ?_)
      · exact absurd h59 (by decide)
      · refine at_aload_n 63 X rfl rfl dX12_one_62 rfl ?_
        refine at_callV 66 X _ 12 (c12_opens0 hG E B n 6 A2 t L hS_A2 h0 (hat_A2 h0) rfl (flT (twT B n t) 3) (flT_ok (twT_ok hO)) (flT_tw h0 3)) clX12 rfl k_125 mo_X12_opens w_2054 vo_X12_opens.1 vo_X12_opens.2 rfl rfl (crm Rt ⟨by omega, by omega, by omega, by omega⟩) (Nat.le_of_ble_eq_true rfl) dX12_one_63 rfl ?_
        rintro _ _ ⟨rfl, B1, rfl, hS_B1⟩
        refine at_if_ne 69 70 X dX12_one_66 rfl (by decide) (fun h66 => ?_) (fun h66 => ?_)
        · exact absurd h66 (by decide)
        · refine at_vret X Rt ?_ (Nat.le_refl _) (Nat.le_refl _) dX12_one_69
          exact ⟨rfl, B1, rfl, hS_B1.eq (unF_w3z h0 hnd.1 hnd.2 (by omega) (by omega)).symm⟩
  · have h0 : ¬ t.2.2.1 = 0 := h4
    refine at_vret X Rt ?_ (Nat.le_refl _) (Nat.le_refl _) dX12_one_7
    exact ⟨rfl, S, rfl, hS_S.eq (show (t, L) = unF B n true id (t, L) from (unF_bad h0).symm)⟩
theorem c12_unitS {g : Gw} (hG : GF g) {z : Bool} (B : Nat → Int) (n : Nat) (hn : n ≤ 150) (SF : Lws → Lws) (hGU : GW n SF) (fr lo : Nat) (hfr : 4 ≤ fr) (hlo : 95 ≤ lo) (op : Int) (hop : -100 ≤ op ∧ op < 6) (hSF : ∀ (E S : Mm) (t : TS) (L : LW), RLP B n (op + 1) E S (t, L) → CT g yX12_sum cX12_sum 2 none fr lo 0 0 K2 z [mR 125] (ov S) K2 z (fun r D' => r = none ∧ ∃ E1, D' = ov E1 ∧ RLP B n (op + 1) E E1 (SF (t, L)))) (E S : Mm) (t : TS) (L : LW) (hS_S : RLP B n op E S (t, L)) : CT g yX12_one cX12_one 3 none (fr + 1) (lo + 21) 0 0 K2 z [mR 125] (ov S) K2 z (fun r D' => r = none ∧ ∃ E1, D' = ov E1 ∧ RLP B n op E E1 (unF B n false SF (t, L))) := by
  refine CT.mk hG (by decide +kernel) (Nat.le_of_ble_eq_true rfl) (fun κ X Rt _ ok => ?_)
  have hO : OKt n t := hS_S.2.1
  refine at_aload_n 1 X rfl rfl dX12_one_0 rfl ?_
  refine m_getIV 4 X t.2.2.1 (rfk hS_S.1) f_X12_168 k_125 rn_125_5 dX12_one_1 rfl ?_
  refine at_if_eq 7 8 X dX12_one_4 rfl (by decide) (fun h4 => ?_) (fun h4 => ?_)
  · have h0 : t.2.2.1 = 0 := by first | exact h4 | exact Decidable.byContradiction h4
    refine at_aload_n 9 X rfl rfl dX12_one_8 rfl ?_
    refine at_callV 12 X _ 12 (c12_bl hG S B n t hS_S.1) clX12 rfl k_125 mo_X12_blanks w_1968 vo_X12_blanks.1 vo_X12_blanks.2 rfl rfl (crm Rt ⟨by omega, by omega, by omega, by omega⟩) (Nat.le_of_ble_eq_true rfl) dX12_one_9 rfl ?_
    rintro _ _ ⟨rfl, A1, rfl, hP_A1, hf_A1, hat_A1⟩
    have hS_A1 : RLP B n op E A1 (t, L) := RLP.tape hS_S hP_A1 hf_A1 hO (fun q => ⟨q, Nat.le_refl _⟩)
    refine at_aload_n 13 X rfl rfl dX12_one_12 rfl ?_
    refine at_bipush 15 X (by decide) (by decide) dX12_one_13 rfl ?_
    refine at_iconst 16 X (by decide) dX12_one_15 rfl ?_
    refine at_iconst 17 X (by decide) dX12_one_16 rfl ?_
    refine at_bipush 19 X (by decide) (by decide) dX12_one_17 rfl ?_
    refine at_bipush 21 X (by decide) (by decide) dX12_one_19 rfl ?_
    refine at_iconst 22 X (by decide) dX12_one_21 rfl ?_
    refine at_callV 25 X _ 12 (ct_X12_isWord hG A1 B n t hO.2 hS_A1.1 12 5 1 19 20 0 (by decide) [108, 101, 97, 115, 116] (by decide) (by decide)) clX12 rfl k_125 mo_X12_isWord w_1984 vo_X12_isWord.1 vo_X12_isWord.2 rfl rfl (crm Rt ⟨by omega, by omega, by omega, by omega⟩) (Nat.le_of_ble_eq_true rfl) dX12_one_22 rfl ?_
    rintro _ _ ⟨rfl, A2, rfl, hP_A2, hf_A2, hat_A2⟩
    have hS_A2 : RLP B n op E A2 (t, L) := RLP.tape hS_A1 hP_A2 hf_A2 hO (fun q => ⟨q, Nat.le_refl _⟩)
    refine at_if_eq 28 33 X dX12_one_25 rfl (by decide) (fun h25 => ?_) (fun h25 => ?_)
    · have h25 : ¬ (t.2.2.1 = 0 ∧ wdB B (twT B n t) [108, 101, 97, 115, 116] = true) := ite_no.mp h25
      refine at_aload_n 34 X rfl rfl dX12_one_33 rfl ?_
      refine at_bipush 36 X (by decide) (by decide) dX12_one_34 rfl ?_
      refine at_bipush 38 X (by decide) (by decide) dX12_one_36 rfl ?_
      refine at_bipush 40 X (by decide) (by decide) dX12_one_38 rfl ?_
      refine at_bipush 42 X (by decide) (by decide) dX12_one_40 rfl ?_
      refine at_iconst 43 X (by decide) dX12_one_42 rfl ?_
      refine at_iconst 44 X (by decide) dX12_one_43 rfl ?_
      refine at_callV 47 X _ 12 (ct_X12_isWord hG A2 B n t hO.2 hS_A2.1 13 15 19 20 0 0 (by decide) [109, 111, 115, 116] (by decide) (by decide)) clX12 rfl k_125 mo_X12_isWord w_1984 vo_X12_isWord.1 vo_X12_isWord.2 rfl rfl (crm Rt ⟨by omega, by omega, by omega, by omega⟩) (Nat.le_of_ble_eq_true rfl) dX12_one_44 rfl ?_
      rintro _ _ ⟨rfl, A3, rfl, hP_A3, hf_A3, hat_A3⟩
      have hS_A3 : RLP B n op E A3 (t, L) := RLP.tape hS_A2 hP_A3 hf_A3 hO (fun q => ⟨q, Nat.le_refl _⟩)
      refine at_if_eq 50 55 X dX12_one_47 rfl (by decide) (fun h47 => ?_) (fun h47 => ?_)
      · have h47 : ¬ (t.2.2.1 = 0 ∧ wdB B (twT B n t) [109, 111, 115, 116] = true) := ite_no.mp h47
        refine at_iconst 56 X (by decide) dX12_one_55 rfl ?_
        refine at_istore_n 57 X rfl dX12_one_56 rfl (by decide) ?_
        refine at_iload_n 58 X rfl rfl dX12_one_57 rfl ?_
        refine at_iconst 59 X (by decide) dX12_one_58 rfl ?_
        refine at_icmp_eq 62 117 X dX12_one_59 rfl (by decide) (fun h59 => ?_) (fun h59 => ?_)
        · refine at_aload_n 118 X rfl rfl dX12_one_117 rfl ?_
          refine at_aload_n 119 X rfl rfl dX12_one_118 rfl ?_
          refine m_getIV 122 X ((sk B n t.1 : Nat) : Int) (hat_A3 h0) f_X12_161 k_125 rn_125_4 dX12_one_119 rfl ?_
          refine at_callV 125 X _ 12 (c12_byteP hG A3 B n t hS_A3.1 (sk B n t.1)) clX12 rfl k_125 mo_X12_byteAt w_1972 vo_X12_byteAt.1 vo_X12_byteAt.2 rfl rfl (crm Rt ⟨by omega, by omega, by omega, by omega⟩) (Nat.le_of_ble_eq_true rfl) dX12_one_122 rfl ?_
          rintro _ _ ⟨rfl, rfl⟩
          refine at_bipush 127 X (by decide) (by decide) dX12_one_125 rfl ?_
          refine at_icmp_ne 130 169 X dX12_one_127 rfl (by decide) (fun h127 => ?_) (fun h127 => ?_)
          · have hbr : ¬ isA B n (sk B n t.1) 40 40 := fun q => absurd ((bAt_is (n := n) (by decide)).mpr q) (by omega)
            refine at_aload_n 170 X rfl rfl dX12_one_169 rfl ?_
            refine at_bipush 172 X (by decide) (by decide) dX12_one_170 rfl ?_
            refine at_bipush 174 X (by decide) (by decide) dX12_one_172 rfl ?_
            refine at_iconst 175 X (by decide) dX12_one_174 rfl ?_
            refine at_iconst 176 X (by decide) dX12_one_175 rfl ?_
            refine at_iconst 177 X (by decide) dX12_one_176 rfl ?_
            refine at_bipush 179 X (by decide) (by decide) dX12_one_177 rfl ?_
            refine at_callV 182 X _ 12 (ct_X12_takes hG A3 B n t hO.2 hS_A3.1 19 8 1 4 5 19 (by decide) [115, 104, 97, 100, 101, 115] (by decide) (by decide)) clX12 rfl k_125 mo_X12_takes w_2062 vo_X12_takes.1 vo_X12_takes.2 rfl rfl (crm Rt ⟨by omega, by omega, by omega, by omega⟩) (Nat.le_of_ble_eq_true rfl) dX12_one_179 rfl ?_
            rintro _ _ ⟨rfl, T1, rfl, hy_T1, hn_T1, hf_T1⟩
            refine at_if_eq 185 189 X dX12_one_182 rfl (by decide) (fun h182 => ?_) (fun h182 => ?_)
            · have h182 : ¬ (t.2.2.1 = 0 ∧ wdB B (twT B n t) [115, 104, 97, 100, 101, 115] = true) := ite_no.mp h182
              have hS_T1 : RLP B n op E T1 (t, L) := RLP.tape hS_A3 (hn_T1 h182).1 hf_T1 hO (fun q => ⟨q, Nat.le_refl _⟩)
              refine at_aload_n 190 X rfl rfl dX12_one_189 rfl ?_
              refine at_bipush 192 X (by decide) (by decide) dX12_one_190 rfl ?_
              refine at_iconst 193 X (by decide) dX12_one_192 rfl ?_
              refine at_bipush 195 X (by decide) (by decide) dX12_one_193 rfl ?_
              refine at_bipush 197 X (by decide) (by decide) dX12_one_195 rfl ?_
              refine at_iconst 198 X (by decide) dX12_one_197 rfl ?_
              refine at_iconst 199 X (by decide) dX12_one_198 rfl ?_
              refine at_callV 202 X _ 12 (ct_X12_takes hG T1 B n t hO.2 hS_T1.1 20 1 12 12 0 0 (by decide) [116, 97, 108, 108] (by decide) (by decide)) clX12 rfl k_125 mo_X12_takes w_2062 vo_X12_takes.1 vo_X12_takes.2 rfl rfl (crm Rt ⟨by omega, by omega, by omega, by omega⟩) (Nat.le_of_ble_eq_true rfl) dX12_one_199 rfl ?_
              rintro _ _ ⟨rfl, T2, rfl, hy_T2, hn_T2, hf_T2⟩
              refine at_if_eq 205 209 X dX12_one_202 rfl (by decide) (fun h202 => ?_) (fun h202 => ?_)
              · have h202 : ¬ (t.2.2.1 = 0 ∧ wdB B (twT B n t) [116, 97, 108, 108] = true) := ite_no.mp h202
                have hS_T2 : RLP B n op E T2 (t, L) := RLP.tape hS_T1 (hn_T2 h202).1 hf_T2 hO (fun q => ⟨q, Nat.le_refl _⟩)
                refine at_aload_n 210 X rfl rfl dX12_one_209 rfl ?_
                refine at_bipush 212 X (by decide) (by decide) dX12_one_210 rfl ?_
                refine at_bipush 214 X (by decide) (by decide) dX12_one_212 rfl ?_
                refine at_bipush 216 X (by decide) (by decide) dX12_one_214 rfl ?_
                refine at_bipush 218 X (by decide) (by decide) dX12_one_216 rfl ?_
                refine at_iconst 219 X (by decide) dX12_one_218 rfl ?_
                refine at_iconst 220 X (by decide) dX12_one_219 rfl ?_
                refine at_callV 223 X _ 12 (ct_X12_takes hG T2 B n t hO.2 hS_T2.1 8 15 21 18 0 0 (by decide) [104, 111, 117, 114] (by decide) (by decide)) clX12 rfl k_125 mo_X12_takes w_2062 vo_X12_takes.1 vo_X12_takes.2 rfl rfl (crm Rt ⟨by omega, by omega, by omega, by omega⟩) (Nat.le_of_ble_eq_true rfl) dX12_one_220 rfl ?_
                rintro _ _ ⟨rfl, T3, rfl, hy_T3, hn_T3, hf_T3⟩
                refine at_if_eq 226 230 X dX12_one_223 rfl (by decide) (fun h223 => ?_) (fun h223 => ?_)
                · have h223 : ¬ (t.2.2.1 = 0 ∧ wdB B (twT B n t) [104, 111, 117, 114] = true) := ite_no.mp h223
                  have hS_T3 : RLP B n op E T3 (t, L) := RLP.tape hS_T2 (hn_T3 h223).1 hf_T3 hO (fun q => ⟨q, Nat.le_refl _⟩)
                  refine at_aload_n 231 X rfl rfl dX12_one_230 rfl ?_
                  refine at_bipush 233 X (by decide) (by decide) dX12_one_231 rfl ?_
                  refine at_iconst 234 X (by decide) dX12_one_233 rfl ?_
                  refine at_bipush 236 X (by decide) (by decide) dX12_one_234 rfl ?_
                  refine at_bipush 238 X (by decide) (by decide) dX12_one_236 rfl ?_
                  refine at_iconst 239 X (by decide) dX12_one_238 rfl ?_
                  refine at_iconst 240 X (by decide) dX12_one_239 rfl ?_
                  refine at_callV 243 X _ 12 (ct_X12_takes hG T3 B n t hO.2 hS_T3.1 12 1 13 16 0 0 (by decide) [108, 97, 109, 112] (by decide) (by decide)) clX12 rfl k_125 mo_X12_takes w_2062 vo_X12_takes.1 vo_X12_takes.2 rfl rfl (crm Rt ⟨by omega, by omega, by omega, by omega⟩) (Nat.le_of_ble_eq_true rfl) dX12_one_240 rfl ?_
                  rintro _ _ ⟨rfl, T4, rfl, hy_T4, hn_T4, hf_T4⟩
                  refine at_if_eq 246 250 X dX12_one_243 rfl (by decide) (fun h243 => ?_) (fun h243 => ?_)
                  · have h243 : ¬ (t.2.2.1 = 0 ∧ wdB B (twT B n t) [108, 97, 109, 112] = true) := ite_no.mp h243
                    have hS_T4 : RLP B n op E T4 (t, L) := RLP.tape hS_T3 (hn_T4 h243).1 hf_T4 hO (fun q => ⟨q, Nat.le_refl _⟩)
                    refine at_iconst 251 X (by decide) dX12_one_250 rfl ?_
                    refine at_istore_n 252 X rfl dX12_one_251 rfl (by decide) ?_
                    refine at_iload_n 253 X rfl rfl dX12_one_252 rfl ?_
                    refine at_iconst 254 X (by decide) dX12_one_253 rfl ?_
                    refine at_icmp_eq 257 266 X dX12_one_254 rfl (by decide) (fun h254 => ?_) (fun h254 => ?_)
                    · refine at_aload_n 267 X rfl rfl dX12_one_266 rfl ?_
                      refine at_iconst 268 X (by decide) dX12_one_267 rfl ?_
                      refine at_aload_n 269 X rfl rfl dX12_one_268 rfl ?_
                      refine at_iconst 270 X (by decide) dX12_one_269 rfl ?_
                      refine at_sipush 273 X (by decide) (by decide) dX12_one_270 rfl ?_
                      refine at_callV 276 X _ 12 (c12_nu hG T4 B n t hS_T4.1 0 999 (by omega) (by omega)) clX12 rfl k_125 mo_X12_number w_2010 vo_X12_number.1 vo_X12_number.2 rfl rfl (crm Rt ⟨by omega, by omega, by omega, by omega⟩) (Nat.le_of_ble_eq_true rfl) dX12_one_273 rfl ?_
                      rintro _ _ ⟨rfl, N1, rfl, hP_N1, hf_N1⟩
                      have hS_N1 : RLP B n op E N1 (nuT B n t 0 999, L) := RLP.tape hS_T4 hP_N1 hf_N1 (nuT_ok hO) (fun q => nu_fw hO q)
                      refine at_callV 279 X _ 12 (c12_says hG B n hn op E N1 (nuT B n t 0 999) L hS_N1 0 ((nuV B n t 0 999 : Nat) : Int) ((nuR B n t 0 999 : Nat) : Int) 0 (by decide) (by decide) (fun _ q => by rw [nuR_eq q]) (fun q => absurd q (by decide)) (fun q => by
                          have := (nu_ok q).2.2
                          have hLt : L.1 ≤ t.1 := (hS_S.2.2.1 h0).1
                          have := sk_in B hO.2
                          omega)) clX12 rfl k_125 mo_X12_says w_2058 vo_X12_says.1 vo_X12_says.2 rfl rfl (crm Rt ⟨by omega, by omega, by omega, by omega⟩) (Nat.le_of_ble_eq_true rfl) dX12_one_276 rfl ?_
                      rintro _ _ ⟨rfl, N2, rfl, hS_N2⟩
                      refine at_vret X Rt ?_ (Nat.le_refl _) (Nat.le_refl _) dX12_one_279
                      by_cases hd : isA B n (sk B n t.1) 48 57
                      · exact ⟨rfl, N2, rfl, hS_N2.eq (unF_dig h0 hd).symm⟩
                      · have hw11 : woW B (twT B n t) = 11 := by
                          unfold woW
                          rw [if_neg (fun q => h182 ⟨h0, q⟩), if_neg (fun q => h202 ⟨h0, q⟩), if_neg (fun q => h223 ⟨h0, q⟩), if_neg (fun q => h243 ⟨h0, q⟩), if_neg (fun q => h25 ⟨h0, q⟩), if_neg (fun q => h47 ⟨h0, q⟩)]
                        have hn1 := nu_nd (B := B) (n := n) (lo := 0) (hi := 999) h0 hd
                        refine ⟨rfl, N2, rfl, ?_⟩
                        rw [unF_unk h0 hd hbr hw11]
                        exact RLP.bad hS_N2 (fun q => by rw [show (nuT B n t 0 999, addW L 0 ((nuV B n t 0 999 : Nat) : Int)).1 = nuT B n t 0 999 from rfl, hn1] at q; exact absurd (show (1 : Int) = 0 from q) (by decide)) (flT_ok (twT_ok hO)) ((flT_tw h0 1).trans hn1.symm)
                    · exact absurd h254 (by decide)
                  · have h243 : (t.2.2.1 = 0 ∧ wdB B (twT B n t) [108, 97, 109, 112] = true) := ite_yes.mp h243
                    have hS_T4 : RLP B n op E T4 (twT B n t, L) := RLP.tape hS_T3 (hy_T4 h243) hf_T4 (twT_ok hO) (fun q => tw_fw hO q)
                    have hwo := wo_4 h243.2
                    have hnd := wd_nd h0 (by decide) h243.2
                    refine at_iconst 247 X (by decide) dX12_one_246 rfl ?_
                    refine at_goto 251 X dX12_one_247 (by decide) ?_
                    refine at_istore_n 252 X rfl dX12_one_251 rfl (by decide) ?_
                    refine at_iload_n 253 X rfl rfl dX12_one_252 rfl ?_
                    refine at_iconst 254 X (by decide) dX12_one_253 rfl ?_
                    refine at_icmp_eq 257 266 X dX12_one_254 rfl (by decide) (fun h254 => ?_) (fun h254 => ?_)
                    · exact absurd h254 (by decide)
                    · refine at_aload_n 258 X rfl rfl dX12_one_257 rfl ?_
                      refine at_iconst 259 X (by decide) dX12_one_258 rfl ?_
                      refine at_iload_n 260 X rfl rfl dX12_one_259 rfl ?_
                      refine at_callV 263 X _ 12 (c12_says hG B n hn op E T4 (twT B n t) L hS_T4 4 0 3 1 (by decide) (by decide) (fun q => absurd q (by decide)) (fun _ _ => rfl) (fun q => by
                          have q1 := (twT_len h0 hwo)
                          have hLt : L.1 ≤ t.1 := (hS_S.2.2.1 h0).1
                          have := sk_in B hO.2
                          omega)) clX12 rfl k_125 mo_X12_says w_2058 vo_X12_says.1 vo_X12_says.2 rfl rfl (crm Rt ⟨by omega, by omega, by omega, by omega⟩) (Nat.le_of_ble_eq_true rfl) dX12_one_260 rfl ?_
                      rintro _ _ ⟨rfl, T8, rfl, hS_T8⟩
                      refine at_goto 279 X dX12_one_263 (by decide) ?_
                      refine at_vret X Rt ?_ (Nat.le_refl _) (Nat.le_refl _) dX12_one_279
                      refine ⟨rfl, T8, rfl, hS_T8.eq ?_⟩
                      rw [unF_wd h0 hnd.1 hnd.2 (by omega) (by omega), hwo]
                · have h223 : (t.2.2.1 = 0 ∧ wdB B (twT B n t) [104, 111, 117, 114] = true) := ite_yes.mp h223
                  have hS_T3 : RLP B n op E T3 (twT B n t, L) := RLP.tape hS_T2 (hy_T3 h223) hf_T3 (twT_ok hO) (fun q => tw_fw hO q)
                  have hwo := wo_3 h223.2
                  have hnd := wd_nd h0 (by decide) h223.2
                  refine at_iconst 227 X (by decide) dX12_one_226 rfl ?_
                  refine at_goto 251 X dX12_one_227 (by decide) ?_
                  refine at_istore_n 252 X rfl dX12_one_251 rfl (by decide) ?_
                  refine at_iload_n 253 X rfl rfl dX12_one_252 rfl ?_
                  refine at_iconst 254 X (by decide) dX12_one_253 rfl ?_
                  refine at_icmp_eq 257 266 X dX12_one_254 rfl (by decide) (fun h254 => ?_) (fun h254 => ?_)
                  · exact absurd h254 (by decide)
                  · refine at_aload_n 258 X rfl rfl dX12_one_257 rfl ?_
                    refine at_iconst 259 X (by decide) dX12_one_258 rfl ?_
                    refine at_iload_n 260 X rfl rfl dX12_one_259 rfl ?_
                    refine at_callV 263 X _ 12 (c12_says hG B n hn op E T3 (twT B n t) L hS_T3 3 0 2 1 (by decide) (by decide) (fun q => absurd q (by decide)) (fun _ _ => rfl) (fun q => by
                        have q1 := (twT_len h0 hwo)
                        have hLt : L.1 ≤ t.1 := (hS_S.2.2.1 h0).1
                        have := sk_in B hO.2
                        omega)) clX12 rfl k_125 mo_X12_says w_2058 vo_X12_says.1 vo_X12_says.2 rfl rfl (crm Rt ⟨by omega, by omega, by omega, by omega⟩) (Nat.le_of_ble_eq_true rfl) dX12_one_260 rfl ?_
                    rintro _ _ ⟨rfl, T8, rfl, hS_T8⟩
                    refine at_goto 279 X dX12_one_263 (by decide) ?_
                    refine at_vret X Rt ?_ (Nat.le_refl _) (Nat.le_refl _) dX12_one_279
                    refine ⟨rfl, T8, rfl, hS_T8.eq ?_⟩
                    rw [unF_wd h0 hnd.1 hnd.2 (by omega) (by omega), hwo]
              · have h202 : (t.2.2.1 = 0 ∧ wdB B (twT B n t) [116, 97, 108, 108] = true) := ite_yes.mp h202
                have hS_T2 : RLP B n op E T2 (twT B n t, L) := RLP.tape hS_T1 (hy_T2 h202) hf_T2 (twT_ok hO) (fun q => tw_fw hO q)
                have hwo := wo_2 h202.2
                have hnd := wd_nd h0 (by decide) h202.2
                refine at_iconst 206 X (by decide) dX12_one_205 rfl ?_
                refine at_goto 251 X dX12_one_206 (by decide) ?_
                refine at_istore_n 252 X rfl dX12_one_251 rfl (by decide) ?_
                refine at_iload_n 253 X rfl rfl dX12_one_252 rfl ?_
                refine at_iconst 254 X (by decide) dX12_one_253 rfl ?_
                refine at_icmp_eq 257 266 X dX12_one_254 rfl (by decide) (fun h254 => ?_) (fun h254 => ?_)
                · exact absurd h254 (by decide)
                · refine at_aload_n 258 X rfl rfl dX12_one_257 rfl ?_
                  refine at_iconst 259 X (by decide) dX12_one_258 rfl ?_
                  refine at_iload_n 260 X rfl rfl dX12_one_259 rfl ?_
                  refine at_callV 263 X _ 12 (c12_says hG B n hn op E T2 (twT B n t) L hS_T2 2 0 1 1 (by decide) (by decide) (fun q => absurd q (by decide)) (fun _ _ => rfl) (fun q => by
                      have q1 := (twT_len h0 hwo)
                      have hLt : L.1 ≤ t.1 := (hS_S.2.2.1 h0).1
                      have := sk_in B hO.2
                      omega)) clX12 rfl k_125 mo_X12_says w_2058 vo_X12_says.1 vo_X12_says.2 rfl rfl (crm Rt ⟨by omega, by omega, by omega, by omega⟩) (Nat.le_of_ble_eq_true rfl) dX12_one_260 rfl ?_
                  rintro _ _ ⟨rfl, T8, rfl, hS_T8⟩
                  refine at_goto 279 X dX12_one_263 (by decide) ?_
                  refine at_vret X Rt ?_ (Nat.le_refl _) (Nat.le_refl _) dX12_one_279
                  refine ⟨rfl, T8, rfl, hS_T8.eq ?_⟩
                  rw [unF_wd h0 hnd.1 hnd.2 (by omega) (by omega), hwo]
            · have h182 : (t.2.2.1 = 0 ∧ wdB B (twT B n t) [115, 104, 97, 100, 101, 115] = true) := ite_yes.mp h182
              have hS_T1 : RLP B n op E T1 (twT B n t, L) := RLP.tape hS_A3 (hy_T1 h182) hf_T1 (twT_ok hO) (fun q => tw_fw hO q)
              have hwo := wo_1 h182.2
              have hnd := wd_nd h0 (by decide) h182.2
              refine at_iconst 186 X (by decide) dX12_one_185 rfl ?_
              refine at_goto 251 X dX12_one_186 (by decide) ?_
              refine at_istore_n 252 X rfl dX12_one_251 rfl (by decide) ?_
              refine at_iload_n 253 X rfl rfl dX12_one_252 rfl ?_
              refine at_iconst 254 X (by decide) dX12_one_253 rfl ?_
              refine at_icmp_eq 257 266 X dX12_one_254 rfl (by decide) (fun h254 => ?_) (fun h254 => ?_)
              · exact absurd h254 (by decide)
              · refine at_aload_n 258 X rfl rfl dX12_one_257 rfl ?_
                refine at_iconst 259 X (by decide) dX12_one_258 rfl ?_
                refine at_iload_n 260 X rfl rfl dX12_one_259 rfl ?_
                refine at_callV 263 X _ 12 (c12_says hG B n hn op E T1 (twT B n t) L hS_T1 1 0 0 1 (by decide) (by decide) (fun q => absurd q (by decide)) (fun _ _ => rfl) (fun q => by
                    have q1 := (twT_len h0 hwo)
                    have hLt : L.1 ≤ t.1 := (hS_S.2.2.1 h0).1
                    have := sk_in B hO.2
                    omega)) clX12 rfl k_125 mo_X12_says w_2058 vo_X12_says.1 vo_X12_says.2 rfl rfl (crm Rt ⟨by omega, by omega, by omega, by omega⟩) (Nat.le_of_ble_eq_true rfl) dX12_one_260 rfl ?_
                rintro _ _ ⟨rfl, T8, rfl, hS_T8⟩
                refine at_goto 279 X dX12_one_263 (by decide) ?_
                refine at_vret X Rt ?_ (Nat.le_refl _) (Nat.le_refl _) dX12_one_279
                refine ⟨rfl, T8, rfl, hS_T8.eq ?_⟩
                rw [unF_wd h0 hnd.1 hnd.2 (by omega) (by omega), hwo]
          · have hbr : isA B n (sk B n t.1) 40 40 := (bAt_is (by decide)).mp (by omega)
            have hbd : ¬ isA B n (sk B n t.1) 48 57 := fun q => by have := q.2; have := hbr.2; omega
            refine at_aload_n 131 X rfl rfl dX12_one_130 rfl ?_
            refine at_callV 134 X _ 12 (c12_opensS hG E B n op A3 t L hS_A3 h0 (hat_A3 h0) (by omega) (by omega)) clX12 rfl k_125 mo_X12_opens w_2054 vo_X12_opens.1 vo_X12_opens.2 rfl rfl (crm Rt ⟨by omega, by omega, by omega, by omega⟩) (Nat.le_of_ble_eq_true rfl) dX12_one_131 rfl ?_
            rintro _ _ ⟨rfl, B2, rfl, hS_B2, hat_B2⟩
            refine at_if_ne 137 138 X dX12_one_134 rfl (by decide) (fun h134 => ?_) (fun h134 => ?_)
            · refine at_aload_n 139 X rfl rfl dX12_one_138 rfl ?_
              refine at_dup 140 X (show ¬ (2 : Nat) = 1 by decide) dX12_one_139 rfl ?_
              refine m_getIV 143 X ((sk B n t.1 : Nat) : Int) hat_B2 f_X12_161 k_125 rn_125_4 dX12_one_140 rfl ?_
              refine at_iconst 144 X (by decide) dX12_one_143 rfl ?_
              refine at_iaddV 145 X ((sk B n t.1 + 1 : Nat) : Int) (w32_v (by omega) (by omega) (by omega)) dX12_one_144 rfl ?_
              refine m_putI 148 X f_X12_161 fw_12_4 k_125 rn_125_4 dX12_one_145 rfl ?_
              have hS_D1 : RLP B n (op + 1) E (wr B2 125 4 ((sk B n t.1 + 1 : Nat) : Int)) (tsT B n t 40, L) := RLP.tape hS_B2 (hS_B2.1.put h0 hbr) ⟨fun q hq => wr_row hq, fun k hk => wr_o (by omega)⟩ (tsT_ok hO) (fun q => ts_fw hO q)
              generalize wr B2 125 4 ((sk B n t.1 + 1 : Nat) : Int) = D1 at hS_D1 ⊢
              refine at_aload_n 149 X rfl rfl dX12_one_148 rfl ?_
              refine at_callV 152 X _ 12 (hSF E D1 (tsT B n t 40) L hS_D1) clX12 rfl k_125 mo_X12_sum w_2042 vo_X12_sum.1 vo_X12_sum.2 rfl rfl (crm Rt ⟨by omega, by omega, by omega, by omega⟩) (Nat.le_of_ble_eq_true rfl) dX12_one_149 rfl ?_
              rintro _ _ ⟨rfl, D2, rfl, hS_D2⟩
              refine at_aload_n 153 X rfl rfl dX12_one_152 rfl ?_
              refine at_bipush 155 X (by decide) (by decide) dX12_one_153 rfl ?_
              refine at_callV 158 X _ 12 (c12_sign hG D2 B n ((SF (tsT B n t 40, L)).1) hS_D2.1 41 (by decide)) clX12 rfl k_125 mo_X12_sign w_2034 vo_X12_sign.1 vo_X12_sign.2 rfl rfl (crm Rt ⟨by omega, by omega, by omega, by omega⟩) (Nat.le_of_ble_eq_true rfl) dX12_one_155 rfl ?_
              rintro _ _ ⟨rfl, D3, rfl, hP_D3, hf_D3⟩
              have hS_D3 : RLP B n (op + 1) E D3 (tsT B n ((SF (tsT B n t 40, L)).1) 41, (SF (tsT B n t 40, L)).2) := RLP.tape (show RLP B n (op + 1) E D2 ((SF (tsT B n t 40, L)).1, (SF (tsT B n t 40, L)).2) from hS_D2) hP_D3 hf_D3 (tsT_ok hS_D2.2.1) (fun q => ts_fw hS_D2.2.1 q)
              refine at_aload_n 159 X rfl rfl dX12_one_158 rfl ?_
              refine at_dup 160 X (show ¬ (2 : Nat) = 1 by decide) dX12_one_159 rfl ?_
              refine m_getIV 163 X (op + 1) hS_D3.2.2.2.1 f_X12_211 k_125 rn_125_8 dX12_one_160 rfl ?_
              refine at_iconst 164 X (by decide) dX12_one_163 rfl ?_
              refine at_isubV 165 X ((op + 1) - 1) (w32_v rfl (by omega) (by omega)) dX12_one_164 rfl ?_
              refine m_putI 168 X f_X12_211 fw_12_8 k_125 rn_125_8 dX12_one_165 rfl ?_
              refine at_vret X Rt ?_ (Nat.le_refl _) (Nat.le_refl _) dX12_one_168
              have e : (op + 1) - 1 = op := by omega
              rw [e]
              refine ⟨rfl, _, rfl, RLP.eq (RLP.op hS_D3) ?_⟩
              rw [unF_br h0 hbd hbr]
              rfl
            · exact absurd h134 (by decide)
        · exact absurd h59 (by decide)
      · have h47 : (t.2.2.1 = 0 ∧ wdB B (twT B n t) [109, 111, 115, 116] = true) := ite_yes.mp h47
        have hwo := wo_10 h47.2
        have hnd := wd_nd h0 (by decide) h47.2
        refine at_bipush 52 X (by decide) (by decide) dX12_one_50 rfl ?_
        refine at_goto 56 X dX12_one_52 (by decide) ?_
        refine at_istore_n 57 X rfl dX12_one_56 rfl (by decide) ?_
        refine at_iload_n 58 X rfl rfl dX12_one_57 rfl ?_
        refine at_iconst 59 X (by decide) dX12_one_58 rfl ?_
        refine at_icmp_eq 62 117 X dX12_one_59 rfl (by decide) (fun h59 => ?_) (fun h59 => ?_)
        · exact absurd h59 (by decide)
        · refine at_aload_n 63 X rfl rfl dX12_one_62 rfl ?_
          refine at_callV 66 X _ 12 (c12_opensS hG E B n op A3 t L hS_A3 h0 (hat_A3 h0) (by omega) (by omega)) clX12 rfl k_125 mo_X12_opens w_2054 vo_X12_opens.1 vo_X12_opens.2 rfl rfl (crm Rt ⟨by omega, by omega, by omega, by omega⟩) (Nat.le_of_ble_eq_true rfl) dX12_one_63 rfl ?_
          rintro _ _ ⟨rfl, B1, rfl, hS_B1, hat_B1⟩
          refine at_if_ne 69 70 X dX12_one_66 rfl (by decide) (fun h66 => ?_) (fun h66 => ?_)
          · refine at_aload_n 71 X rfl rfl dX12_one_70 rfl ?_
            refine at_callV 74 X _ 12 (c12_skip hG B1 B n t hO.2 hS_B1.1 h0 hat_B1) clX12 rfl k_125 mo_X12_skipWord w_2006 vo_X12_skipWord.1 vo_X12_skipWord.2 rfl rfl (crm Rt ⟨by omega, by omega, by omega, by omega⟩) (Nat.le_of_ble_eq_true rfl) dX12_one_71 rfl ?_
            rintro _ _ ⟨rfl, B3, rfl, hP_B3, hf_B3⟩
            have hS_B3 : RLP B n (op + 1) E B3 (twT B n t, L) := RLP.tape hS_B1 hP_B3 hf_B3 (twT_ok hO) (fun q => tw_fw hO q)
            refine at_aload_n 75 X rfl rfl dX12_one_74 rfl ?_
            refine at_bipush 77 X (by decide) (by decide) dX12_one_75 rfl ?_
            refine at_callV 80 X _ 12 (c12_sign hG B3 B n (twT B n t) hS_B3.1 91 (by decide)) clX12 rfl k_125 mo_X12_sign w_2034 vo_X12_sign.1 vo_X12_sign.2 rfl rfl (crm Rt ⟨by omega, by omega, by omega, by omega⟩) (Nat.le_of_ble_eq_true rfl) dX12_one_77 rfl ?_
            rintro _ _ ⟨rfl, C1, rfl, hP_C1, hf_C1⟩
            have hS_C1 : RLP B n (op + 1) E C1 (tsT B n (twT B n t) 91, L) := RLP.tape (show RLP B n (op + 1) E B3 (twT B n t, L) from hS_B3) hP_C1 hf_C1 (tsT_ok hS_B3.2.1) (fun q => ts_fw hS_B3.2.1 q)
            refine at_aload_n 81 X rfl rfl dX12_one_80 rfl ?_
            refine at_callV 84 X _ 12 (hSF E C1 (tsT B n (twT B n t) 91) L hS_C1) clX12 rfl k_125 mo_X12_sum w_2042 vo_X12_sum.1 vo_X12_sum.2 rfl rfl (crm Rt ⟨by omega, by omega, by omega, by omega⟩) (Nat.le_of_ble_eq_true rfl) dX12_one_81 rfl ?_
            rintro _ _ ⟨rfl, C2, rfl, hS_C2⟩
            refine at_aload_n 85 X rfl rfl dX12_one_84 rfl ?_
            refine at_bipush 87 X (by decide) (by decide) dX12_one_85 rfl ?_
            refine at_callV 90 X _ 12 (c12_sign hG C2 B n ((SF (tsT B n (twT B n t) 91, L)).1) hS_C2.1 44 (by decide)) clX12 rfl k_125 mo_X12_sign w_2034 vo_X12_sign.1 vo_X12_sign.2 rfl rfl (crm Rt ⟨by omega, by omega, by omega, by omega⟩) (Nat.le_of_ble_eq_true rfl) dX12_one_87 rfl ?_
            rintro _ _ ⟨rfl, C3, rfl, hP_C3, hf_C3⟩
            have hS_C3 : RLP B n (op + 1) E C3 (tsT B n ((SF (tsT B n (twT B n t) 91, L)).1) 44, (SF (tsT B n (twT B n t) 91, L)).2) := RLP.tape (show RLP B n (op + 1) E C2 ((SF (tsT B n (twT B n t) 91, L)).1, (SF (tsT B n (twT B n t) 91, L)).2) from hS_C2) hP_C3 hf_C3 (tsT_ok hS_C2.2.1) (fun q => ts_fw hS_C2.2.1 q)
            refine at_aload_n 91 X rfl rfl dX12_one_90 rfl ?_
            refine at_callV 94 X _ 12 (hSF E C3 (tsT B n ((SF (tsT B n (twT B n t) 91, L)).1) 44) ((SF (tsT B n (twT B n t) 91, L)).2) hS_C3) clX12 rfl k_125 mo_X12_sum w_2042 vo_X12_sum.1 vo_X12_sum.2 rfl rfl (crm Rt ⟨by omega, by omega, by omega, by omega⟩) (Nat.le_of_ble_eq_true rfl) dX12_one_91 rfl ?_
            rintro _ _ ⟨rfl, C4, rfl, hS_C4⟩
            refine at_aload_n 95 X rfl rfl dX12_one_94 rfl ?_
            refine at_bipush 97 X (by decide) (by decide) dX12_one_95 rfl ?_
            refine at_callV 100 X _ 12 (c12_sign hG C4 B n ((SF (tsT B n ((SF (tsT B n (twT B n t) 91, L)).1) 44, (SF (tsT B n (twT B n t) 91, L)).2)).1) hS_C4.1 93 (by decide)) clX12 rfl k_125 mo_X12_sign w_2034 vo_X12_sign.1 vo_X12_sign.2 rfl rfl (crm Rt ⟨by omega, by omega, by omega, by omega⟩) (Nat.le_of_ble_eq_true rfl) dX12_one_97 rfl ?_
            rintro _ _ ⟨rfl, C5, rfl, hP_C5, hf_C5⟩
            have hS_C5 : RLP B n (op + 1) E C5 (tsT B n ((SF (tsT B n ((SF (tsT B n (twT B n t) 91, L)).1) 44, (SF (tsT B n (twT B n t) 91, L)).2)).1) 93, (SF (tsT B n ((SF (tsT B n (twT B n t) 91, L)).1) 44, (SF (tsT B n (twT B n t) 91, L)).2)).2) := RLP.tape (show RLP B n (op + 1) E C4 ((SF (tsT B n ((SF (tsT B n (twT B n t) 91, L)).1) 44, (SF (tsT B n (twT B n t) 91, L)).2)).1, (SF (tsT B n ((SF (tsT B n (twT B n t) 91, L)).1) 44, (SF (tsT B n (twT B n t) 91, L)).2)).2) from hS_C4) hP_C5 hf_C5 (tsT_ok hS_C4.2.1) (fun q => ts_fw hS_C4.2.1 q)
            refine at_aload_n 101 X rfl rfl dX12_one_100 rfl ?_
            refine at_iload_n 102 X rfl rfl dX12_one_101 rfl ?_
            refine at_iconst 103 X (by decide) dX12_one_102 rfl ?_
            refine at_callV 106 X _ 12 (c12_says hG B n hn (op + 1) E C5 (tsT B n ((SF (tsT B n ((SF (tsT B n (twT B n t) 91, L)).1) 44, (SF (tsT B n (twT B n t) 91, L)).2)).1) 93) ((SF (tsT B n ((SF (tsT B n (twT B n t) 91, L)).1) 44, (SF (tsT B n (twT B n t) 91, L)).2)).2) hS_C5 10 0 0 7 (by decide) (by decide) (fun _ _ => rfl) (fun _ q => absurd q (by decide)) (fun q => by
                have q1 := (ts_ok q).1
                obtain ⟨q2, q3, q4, q5⟩ := GW.step (B := B) hGU hS_C2.2.1 (fun q => (hS_C2.2.2.1 q).1) q1
                have := (ts_ok q).2.2
                have := sk_in B hS_C4.2.1.2
                omega)) clX12 rfl k_125 mo_X12_says w_2058 vo_X12_says.1 vo_X12_says.2 rfl rfl (crm Rt ⟨by omega, by omega, by omega, by omega⟩) (Nat.le_of_ble_eq_true rfl) dX12_one_103 rfl ?_
            rintro _ _ ⟨rfl, C6, rfl, hS_C6⟩
            refine at_aload_n 107 X rfl rfl dX12_one_106 rfl ?_
            refine at_dup 108 X (show ¬ (2 : Nat) = 1 by decide) dX12_one_107 rfl ?_
            refine m_getIV 111 X (op + 1) hS_C6.2.2.2.1 f_X12_211 k_125 rn_125_8 dX12_one_108 rfl ?_
            refine at_iconst 112 X (by decide) dX12_one_111 rfl ?_
            refine at_isubV 113 X ((op + 1) - 1) (w32_v rfl (by omega) (by omega)) dX12_one_112 rfl ?_
            refine m_putI 116 X f_X12_211 fw_12_8 k_125 rn_125_8 dX12_one_113 rfl ?_
            refine at_vret X Rt ?_ (Nat.le_refl _) (Nat.le_refl _) dX12_one_116
            have e : (op + 1) - 1 = op := by omega
            rw [e]
            refine ⟨rfl, _, rfl, RLP.eq (RLP.op hS_C6) ?_⟩
            rw [unF_w3 h0 hnd.1 hnd.2 (by omega) (by omega), hwo]
            rfl
          · exact absurd h66 (by decide)
    · have h25 : (t.2.2.1 = 0 ∧ wdB B (twT B n t) [108, 101, 97, 115, 116] = true) := ite_yes.mp h25
      have hwo := wo_9 h25.2
      have hnd := wd_nd h0 (by decide) h25.2
      refine at_bipush 30 X (by decide) (by decide) dX12_one_28 rfl ?_
      refine at_goto 56 X dX12_one_30 (by decide) ?_
      refine at_istore_n 57 X rfl dX12_one_56 rfl (by decide) ?_
      refine at_iload_n 58 X rfl rfl dX12_one_57 rfl ?_
      refine at_iconst 59 X (by decide) dX12_one_58 rfl ?_
      refine at_icmp_eq 62 117 X dX12_one_59 rfl (by decide) (fun h59 => ?_) (fun h59 => ?_)
      · exact absurd h59 (by decide)
      · refine at_aload_n 63 X rfl rfl dX12_one_62 rfl ?_
        refine at_callV 66 X _ 12 (c12_opensS hG E B n op A2 t L hS_A2 h0 (hat_A2 h0) (by omega) (by omega)) clX12 rfl k_125 mo_X12_opens w_2054 vo_X12_opens.1 vo_X12_opens.2 rfl rfl (crm Rt ⟨by omega, by omega, by omega, by omega⟩) (Nat.le_of_ble_eq_true rfl) dX12_one_63 rfl ?_
        rintro _ _ ⟨rfl, B1, rfl, hS_B1, hat_B1⟩
        refine at_if_ne 69 70 X dX12_one_66 rfl (by decide) (fun h66 => ?_) (fun h66 => ?_)
        · refine at_aload_n 71 X rfl rfl dX12_one_70 rfl ?_
          refine at_callV 74 X _ 12 (c12_skip hG B1 B n t hO.2 hS_B1.1 h0 hat_B1) clX12 rfl k_125 mo_X12_skipWord w_2006 vo_X12_skipWord.1 vo_X12_skipWord.2 rfl rfl (crm Rt ⟨by omega, by omega, by omega, by omega⟩) (Nat.le_of_ble_eq_true rfl) dX12_one_71 rfl ?_
          rintro _ _ ⟨rfl, B3, rfl, hP_B3, hf_B3⟩
          have hS_B3 : RLP B n (op + 1) E B3 (twT B n t, L) := RLP.tape hS_B1 hP_B3 hf_B3 (twT_ok hO) (fun q => tw_fw hO q)
          refine at_aload_n 75 X rfl rfl dX12_one_74 rfl ?_
          refine at_bipush 77 X (by decide) (by decide) dX12_one_75 rfl ?_
          refine at_callV 80 X _ 12 (c12_sign hG B3 B n (twT B n t) hS_B3.1 91 (by decide)) clX12 rfl k_125 mo_X12_sign w_2034 vo_X12_sign.1 vo_X12_sign.2 rfl rfl (crm Rt ⟨by omega, by omega, by omega, by omega⟩) (Nat.le_of_ble_eq_true rfl) dX12_one_77 rfl ?_
          rintro _ _ ⟨rfl, C1, rfl, hP_C1, hf_C1⟩
          have hS_C1 : RLP B n (op + 1) E C1 (tsT B n (twT B n t) 91, L) := RLP.tape (show RLP B n (op + 1) E B3 (twT B n t, L) from hS_B3) hP_C1 hf_C1 (tsT_ok hS_B3.2.1) (fun q => ts_fw hS_B3.2.1 q)
          refine at_aload_n 81 X rfl rfl dX12_one_80 rfl ?_
          refine at_callV 84 X _ 12 (hSF E C1 (tsT B n (twT B n t) 91) L hS_C1) clX12 rfl k_125 mo_X12_sum w_2042 vo_X12_sum.1 vo_X12_sum.2 rfl rfl (crm Rt ⟨by omega, by omega, by omega, by omega⟩) (Nat.le_of_ble_eq_true rfl) dX12_one_81 rfl ?_
          rintro _ _ ⟨rfl, C2, rfl, hS_C2⟩
          refine at_aload_n 85 X rfl rfl dX12_one_84 rfl ?_
          refine at_bipush 87 X (by decide) (by decide) dX12_one_85 rfl ?_
          refine at_callV 90 X _ 12 (c12_sign hG C2 B n ((SF (tsT B n (twT B n t) 91, L)).1) hS_C2.1 44 (by decide)) clX12 rfl k_125 mo_X12_sign w_2034 vo_X12_sign.1 vo_X12_sign.2 rfl rfl (crm Rt ⟨by omega, by omega, by omega, by omega⟩) (Nat.le_of_ble_eq_true rfl) dX12_one_87 rfl ?_
          rintro _ _ ⟨rfl, C3, rfl, hP_C3, hf_C3⟩
          have hS_C3 : RLP B n (op + 1) E C3 (tsT B n ((SF (tsT B n (twT B n t) 91, L)).1) 44, (SF (tsT B n (twT B n t) 91, L)).2) := RLP.tape (show RLP B n (op + 1) E C2 ((SF (tsT B n (twT B n t) 91, L)).1, (SF (tsT B n (twT B n t) 91, L)).2) from hS_C2) hP_C3 hf_C3 (tsT_ok hS_C2.2.1) (fun q => ts_fw hS_C2.2.1 q)
          refine at_aload_n 91 X rfl rfl dX12_one_90 rfl ?_
          refine at_callV 94 X _ 12 (hSF E C3 (tsT B n ((SF (tsT B n (twT B n t) 91, L)).1) 44) ((SF (tsT B n (twT B n t) 91, L)).2) hS_C3) clX12 rfl k_125 mo_X12_sum w_2042 vo_X12_sum.1 vo_X12_sum.2 rfl rfl (crm Rt ⟨by omega, by omega, by omega, by omega⟩) (Nat.le_of_ble_eq_true rfl) dX12_one_91 rfl ?_
          rintro _ _ ⟨rfl, C4, rfl, hS_C4⟩
          refine at_aload_n 95 X rfl rfl dX12_one_94 rfl ?_
          refine at_bipush 97 X (by decide) (by decide) dX12_one_95 rfl ?_
          refine at_callV 100 X _ 12 (c12_sign hG C4 B n ((SF (tsT B n ((SF (tsT B n (twT B n t) 91, L)).1) 44, (SF (tsT B n (twT B n t) 91, L)).2)).1) hS_C4.1 93 (by decide)) clX12 rfl k_125 mo_X12_sign w_2034 vo_X12_sign.1 vo_X12_sign.2 rfl rfl (crm Rt ⟨by omega, by omega, by omega, by omega⟩) (Nat.le_of_ble_eq_true rfl) dX12_one_97 rfl ?_
          rintro _ _ ⟨rfl, C5, rfl, hP_C5, hf_C5⟩
          have hS_C5 : RLP B n (op + 1) E C5 (tsT B n ((SF (tsT B n ((SF (tsT B n (twT B n t) 91, L)).1) 44, (SF (tsT B n (twT B n t) 91, L)).2)).1) 93, (SF (tsT B n ((SF (tsT B n (twT B n t) 91, L)).1) 44, (SF (tsT B n (twT B n t) 91, L)).2)).2) := RLP.tape (show RLP B n (op + 1) E C4 ((SF (tsT B n ((SF (tsT B n (twT B n t) 91, L)).1) 44, (SF (tsT B n (twT B n t) 91, L)).2)).1, (SF (tsT B n ((SF (tsT B n (twT B n t) 91, L)).1) 44, (SF (tsT B n (twT B n t) 91, L)).2)).2) from hS_C4) hP_C5 hf_C5 (tsT_ok hS_C4.2.1) (fun q => ts_fw hS_C4.2.1 q)
          refine at_aload_n 101 X rfl rfl dX12_one_100 rfl ?_
          refine at_iload_n 102 X rfl rfl dX12_one_101 rfl ?_
          refine at_iconst 103 X (by decide) dX12_one_102 rfl ?_
          refine at_callV 106 X _ 12 (c12_says hG B n hn (op + 1) E C5 (tsT B n ((SF (tsT B n ((SF (tsT B n (twT B n t) 91, L)).1) 44, (SF (tsT B n (twT B n t) 91, L)).2)).1) 93) ((SF (tsT B n ((SF (tsT B n (twT B n t) 91, L)).1) 44, (SF (tsT B n (twT B n t) 91, L)).2)).2) hS_C5 9 0 0 6 (by decide) (by decide) (fun _ _ => rfl) (fun _ q => absurd q (by decide)) (fun q => by
              have q1 := (ts_ok q).1
              obtain ⟨q2, q3, q4, q5⟩ := GW.step (B := B) hGU hS_C2.2.1 (fun q => (hS_C2.2.2.1 q).1) q1
              have := (ts_ok q).2.2
              have := sk_in B hS_C4.2.1.2
              omega)) clX12 rfl k_125 mo_X12_says w_2058 vo_X12_says.1 vo_X12_says.2 rfl rfl (crm Rt ⟨by omega, by omega, by omega, by omega⟩) (Nat.le_of_ble_eq_true rfl) dX12_one_103 rfl ?_
          rintro _ _ ⟨rfl, C6, rfl, hS_C6⟩
          refine at_aload_n 107 X rfl rfl dX12_one_106 rfl ?_
          refine at_dup 108 X (show ¬ (2 : Nat) = 1 by decide) dX12_one_107 rfl ?_
          refine m_getIV 111 X (op + 1) hS_C6.2.2.2.1 f_X12_211 k_125 rn_125_8 dX12_one_108 rfl ?_
          refine at_iconst 112 X (by decide) dX12_one_111 rfl ?_
          refine at_isubV 113 X ((op + 1) - 1) (w32_v rfl (by omega) (by omega)) dX12_one_112 rfl ?_
          refine m_putI 116 X f_X12_211 fw_12_8 k_125 rn_125_8 dX12_one_113 rfl ?_
          refine at_vret X Rt ?_ (Nat.le_refl _) (Nat.le_refl _) dX12_one_116
          have e : (op + 1) - 1 = op := by omega
          rw [e]
          refine ⟨rfl, _, rfl, RLP.eq (RLP.op hS_C6) ?_⟩
          rw [unF_w3 h0 hnd.1 hnd.2 (by omega) (by omega), hwo]
          rfl
        · exact absurd h66 (by decide)
  · have h0 : ¬ t.2.2.1 = 0 := h4
    refine at_vret X Rt ?_ (Nat.le_refl _) (Nat.le_refl _) dX12_one_7
    exact ⟨rfl, S, rfl, hS_S.eq (show (t, L) = unF B n false SF (t, L) from (unF_bad h0).symm)⟩
theorem c12_unit {g : Gw} (hG : GF g) {z : Bool} (B : Nat → Int) (n : Nat) (hn : n ≤ 150) : ∀ k : Nat, k ≤ 6 → ∀ (E S : Mm) (t : TS) (L : LW), RLP B n (6 - (k : Int)) E S (t, L) → CT g yX12_one cX12_one 3 none (5 + 3 * k) (116 + 64 * k) 0 0 K2 z [mR 125] (ov S) K2 z (fun r D' => r = none ∧ ∃ E1, D' = ov E1 ∧ RLP B n (6 - (k : Int)) E E1 (unW B n k (t, L)))
  | 0, _ => fun E S t L h => c12_unit0 hG B n hn E S t L h
  | k + 1, hk => fun E S t L h => by
    have hu := c12_unit hG (z := z) B n hn k (by omega)
    have hp := c12_prod hG B n hn (unW B n k) (unW_GW B hn k) (5 + 3 * k) (116 + 64 * k) (by omega) (by omega) (6 - (k : Int)) hu
    have hsu := c12_sum hG B n hn (prF B n (unW B n k)) (prF_GW hn (unW_GW B hn k)) (5 + 3 * k + 1) (116 + 64 * k + 22) (by omega) (by omega) (6 - (k : Int)) hp
    have h := c12_unitS hG B n hn (suF B n (unW B n k)) (suF_GW hn (unW_GW B hn k)) (5 + 3 * k + 1 + 1) (116 + 64 * k + 22 + 21) (by omega) (by omega) (6 - ((k + 1 : Nat) : Int)) (by omega) (by rw [show 6 - ((k + 1 : Nat) : Int) + 1 = 6 - (k : Int) by omega]; exact hsu) E S t L h
    rw [show 5 + 3 * (k + 1) = 5 + 3 * k + 1 + 1 + 1 by omega, show 116 + 64 * (k + 1) = 116 + 64 * k + 22 + 21 + 21 by omega]
    exact h
theorem c12_law {g : Gw} (hG : GF g) {z : Bool} (B : Nat → Int) (n : Nat) (hn : n ≤ 150) (E S : Mm) (t : TS) (L : LW) (h : RLP B n 0 E S (t, L)) : CT g yX12_sum cX12_sum 2 none 25 543 0 0 K2 z [mR 125] (ov S) K2 z (fun r D' => r = none ∧ ∃ E1, D' = ov E1 ∧ RLP B n 0 E E1 (suF B n (unW B n 6) (t, L))) := by
  have hu := c12_unit hG (z := z) B n hn 6 (Nat.le_refl _)
  have hp := c12_prod hG B n hn (unW B n 6) (unW_GW B hn 6) (5 + 3 * 6) (116 + 64 * 6) (by omega) (by omega) (6 - ((6 : Nat) : Int)) hu
  exact c12_sum hG B n hn (prF B n (unW B n 6)) (prF_GW hn (unW_GW B hn 6)) (5 + 3 * 6 + 1) (116 + 64 * 6 + 22) (by omega) (by omega) (6 - ((6 : Nat) : Int)) hp E S t L h
