theorem sunA_ge {P : SP} {t h : Nat} (ht : ¬ sSl P t = -1) (hh : t ≤ h) : (t : Int) ≤ sunA P h := by
  have key : ∀ n : Nat, t < n → (t : Int) ≤ itr (fun t v => if sSl P t = -1 then v else (t : Int)) (-1) n := by
    intro n
    induction n with
    | zero => intro h; omega
    | succ n ih =>
      intro h
      rw [itr_s]
      by_cases c : t = n
      · subst c; rw [if_neg ht]; omega
      · have := ih (by omega)
        split <;> omega
  exact key (h + 1) (by omega)
theorem sunA_ok {P : SP} {h : Nat} (c : 0 ≤ sunA P h) : ¬ sSl P (sunA P h).toNat = -1 := by
  have key : ∀ n : Nat, 0 ≤ itr (fun t v => if sSl P t = -1 then v else (t : Int)) (-1) n → ¬ sSl P (itr (fun t v => if sSl P t = -1 then v else (t : Int)) (-1) n).toNat = -1 := by
    intro n
    induction n with
    | zero => intro h; exact absurd h (show ¬ (0 : Int) ≤ -1 by decide)
    | succ n ih =>
      rw [itr_s]
      by_cases c : sSl P n = -1
      · rw [if_pos c]; exact ih
      · rw [if_neg c, Int.toNat_natCast]; exact fun _ => c
  exact key (h + 1) c
/-- the sun that counts, in the reference's list -/
def sunK (P : SP) (Q : RX) (h : Nat) (v : Int) : Prop := (v = -1 ∧ sunP P h = -1) ∨ ∃ k : Nat, k < xNs Q ∧ v = (k : Int) ∧ (xTk Q k : Int) = sunP P h
theorem sunK_of {P : SP} {Q : RX} {E : Mm} {h k : Nat} {v : Int} (hS : RSu E P Q) (hh : h < 24) (hd : h < sDk P) (hk : k = xNs Q) (hv : (v = -1 ∧ ∀ j, j < k → h < xTk Q j) ∨ ∃ b : Nat, b < k ∧ v = (b : Int) ∧ xTk Q b ≤ h ∧ ∀ j, j < k → xTk Q j ≤ h → xTk Q j ≤ xTk Q b) : sunK P Q h v := by
  have e : sunP P h = sunA P h := if_pos hd
  have hin := sunA_in P h
  subst hk
  rcases hv with ⟨h1, h2⟩ | ⟨b, h1, h2, h3, h4⟩
  · refine Or.inl ⟨h1, ?_⟩
    rw [e]
    rcases (show sunA P h = -1 ∨ 0 ≤ sunA P h by omega) with c | c
    · exact c
    · obtain ⟨j, hj, ej⟩ := hS.2.2 (sunA P h).toNat (by omega) (sunA_ok c)
      have := h2 j hj
      omega
  · refine Or.inr ⟨b, h1, h2, ?_⟩
    rw [e]
    have hb := hS.2.1 b h1
    have hge := sunA_ge (h := h) hb.2.1 h3
    obtain ⟨j, hj, ej⟩ := hS.2.2 (sunA P h).toNat (by omega) (sunA_ok (by omega))
    have := h4 j hj (by omega)
    omega
theorem dX12_sunAt_0 : decode cX12_sunAt 0 = .ok (.iconst (-1), 1) := by decide +kernel
theorem dX12_sunAt_1 : decode cX12_sunAt 1 = .ok (.istore_n 2, 1) := by decide +kernel
theorem dX12_sunAt_2 : decode cX12_sunAt 2 = .ok (.iconst 0, 1) := by decide +kernel
theorem dX12_sunAt_3 : decode cX12_sunAt 3 = .ok (.istore_n 3, 1) := by decide +kernel
theorem dX12_sunAt_4 : decode cX12_sunAt 4 = .ok (.iload_n 3, 1) := by decide +kernel
theorem dX12_sunAt_5 : decode cX12_sunAt 5 = .ok (.aload_n 0, 1) := by decide +kernel
theorem dX12_sunAt_6 : decode cX12_sunAt 6 = .ok (.getfield 23, 3) := by decide +kernel
theorem dX12_sunAt_9 : decode cX12_sunAt 9 = .ok (.iconst 2, 1) := by decide +kernel
theorem dX12_sunAt_10 : decode cX12_sunAt 10 = .ok (.iaload, 1) := by decide +kernel
theorem dX12_sunAt_11 : decode cX12_sunAt 11 = .ok (.if_icmp .ge 58, 3) := by decide +kernel
theorem dX12_sunAt_14 : decode cX12_sunAt 14 = .ok (.iload_n 1, 1) := by decide +kernel
theorem dX12_sunAt_15 : decode cX12_sunAt 15 = .ok (.aload_n 0, 1) := by decide +kernel
theorem dX12_sunAt_16 : decode cX12_sunAt 16 = .ok (.getfield 23, 3) := by decide +kernel
theorem dX12_sunAt_19 : decode cX12_sunAt 19 = .ok (.bipush 7, 2) := by decide +kernel
theorem dX12_sunAt_21 : decode cX12_sunAt 21 = .ok (.iaload, 1) := by decide +kernel
theorem dX12_sunAt_22 : decode cX12_sunAt 22 = .ok (.if_icmp .ge 47, 3) := by decide +kernel
theorem dX12_sunAt_25 : decode cX12_sunAt 25 = .ok (.aload_n 0, 1) := by decide +kernel
theorem dX12_sunAt_26 : decode cX12_sunAt 26 = .ok (.getfield 37, 3) := by decide +kernel
theorem dX12_sunAt_29 : decode cX12_sunAt 29 = .ok (.iload_n 3, 1) := by decide +kernel
theorem dX12_sunAt_30 : decode cX12_sunAt 30 = .ok (.aaload, 1) := by decide +kernel
theorem dX12_sunAt_31 : decode cX12_sunAt 31 = .ok (.iconst 0, 1) := by decide +kernel
theorem dX12_sunAt_32 : decode cX12_sunAt 32 = .ok (.iaload, 1) := by decide +kernel
theorem dX12_sunAt_33 : decode cX12_sunAt 33 = .ok (.iload_n 1, 1) := by decide +kernel
theorem dX12_sunAt_34 : decode cX12_sunAt 34 = .ok (.if_icmp .gt 29, 3) := by decide +kernel
theorem dX12_sunAt_37 : decode cX12_sunAt 37 = .ok (.iload_n 2, 1) := by decide +kernel
theorem dX12_sunAt_38 : decode cX12_sunAt 38 = .ok (.iconst (-1), 1) := by decide +kernel
theorem dX12_sunAt_39 : decode cX12_sunAt 39 = .ok (.if_icmp .eq 22, 3) := by decide +kernel
theorem dX12_sunAt_42 : decode cX12_sunAt 42 = .ok (.aload_n 0, 1) := by decide +kernel
theorem dX12_sunAt_43 : decode cX12_sunAt 43 = .ok (.getfield 37, 3) := by decide +kernel
theorem dX12_sunAt_46 : decode cX12_sunAt 46 = .ok (.iload_n 3, 1) := by decide +kernel
theorem dX12_sunAt_47 : decode cX12_sunAt 47 = .ok (.aaload, 1) := by decide +kernel
theorem dX12_sunAt_48 : decode cX12_sunAt 48 = .ok (.iconst 0, 1) := by decide +kernel
theorem dX12_sunAt_49 : decode cX12_sunAt 49 = .ok (.iaload, 1) := by decide +kernel
theorem dX12_sunAt_50 : decode cX12_sunAt 50 = .ok (.aload_n 0, 1) := by decide +kernel
theorem dX12_sunAt_51 : decode cX12_sunAt 51 = .ok (.getfield 37, 3) := by decide +kernel
theorem dX12_sunAt_54 : decode cX12_sunAt 54 = .ok (.iload_n 2, 1) := by decide +kernel
theorem dX12_sunAt_55 : decode cX12_sunAt 55 = .ok (.aaload, 1) := by decide +kernel
theorem dX12_sunAt_56 : decode cX12_sunAt 56 = .ok (.iconst 0, 1) := by decide +kernel
theorem dX12_sunAt_57 : decode cX12_sunAt 57 = .ok (.iaload, 1) := by decide +kernel
theorem dX12_sunAt_58 : decode cX12_sunAt 58 = .ok (.if_icmp .le 5, 3) := by decide +kernel
theorem dX12_sunAt_61 : decode cX12_sunAt 61 = .ok (.iload_n 3, 1) := by decide +kernel
theorem dX12_sunAt_62 : decode cX12_sunAt 62 = .ok (.istore_n 2, 1) := by decide +kernel
theorem dX12_sunAt_63 : decode cX12_sunAt 63 = .ok (.iinc 3 1, 3) := by decide +kernel
theorem dX12_sunAt_66 : decode cX12_sunAt 66 = .ok (.goto (-62), 3) := by decide +kernel
theorem dX12_sunAt_69 : decode cX12_sunAt 69 = .ok (.iload_n 2, 1) := by decide +kernel
theorem dX12_sunAt_70 : decode cX12_sunAt 70 = .ok (.ireturn, 1) := by decide +kernel
theorem ct_X12_sunAt {g : Gw} (hG : GF g) {z : Bool} (E : Mm) (P : SP) (Q : RX) (hP : WS P) (hR_E : RTS E P Q) (h : Nat) (hh : h < 24) : CT g yX12_sunAt cX12_sunAt 4 (some .int) 0 0 0 0 K2 z [mR 125, mI ((h : Nat) : Int)] (ov E) K2 z (fun r D' => ∃ v : Int, r = some (mI v) ∧ sunK P Q h v ∧ D' = ov E) := by
  refine CT.mk hG (by decide +kernel) (Nat.le_of_ble_eq_true rfl) (fun κ X Rt _ ok => ?_)
  refine at_iconst 1 X (by decide) dX12_sunAt_0 rfl ?_
  refine at_istore_n 2 X rfl dX12_sunAt_1 rfl (by decide) ?_
  refine at_iconst 3 X (by decide) dX12_sunAt_2 rfl ?_
  refine at_istore_n 4 X rfl dX12_sunAt_3 rfl (by decide) ?_
  have J4 : ∀ (f4 : Nat) (k : Nat) (v : Int), 12 - k < f4 → (k ≤ xNs Q) → (k = 0 ∨ h < sDk P) → ((v = -1 ∧ ∀ j, j < k → h < xTk Q j) ∨ ∃ b : Nat, b < k ∧ v = (b : Int) ∧ xTk Q b ≤ h ∧ ∀ j, j < k → xTk Q j ≤ h → xTk Q j ≤ xTk Q b) → AT g κ K2 z 0 0 4 [(0, mR 125), (1, mI ((h : Nat) : Int)), (2, mI v), (3, mI ((k : Nat) : Int))] [] (ov E) := by
    intro f4
    induction f4 with
    | zero => intro k v hf4; omega
    | succ f4 ih4 =>
    intro k v hf4 hk hd hv
    refine at_iload_n 5 X rfl rfl dX12_sunAt_4 rfl ?_
    refine at_aload_n 6 X rfl rfl dX12_sunAt_5 rfl ?_
    refine m_getR 9 X f_X12_23 k_125 r_125_12 dX12_sunAt_6 rfl ?_
    refine at_iconst 10 X (by decide) dX12_sunAt_9 rfl ?_
    refine m_ialoadV 11 X 2 (by omega) ((xNs Q : Nat) : Int) hR_E.1.2.2.1 k_129 e_129 (by omega) dX12_sunAt_10 rfl ?_
    have := hR_E.2.2.1.1
    refine at_icmp_ge 14 69 X dX12_sunAt_11 rfl (by decide) (fun h11 => ?_) (fun h11 => ?_)
    · refine at_iload_n 70 X rfl rfl dX12_sunAt_69 rfl ?_
      refine at_iret X Rt ?_ (Nat.le_refl _) (Nat.le_refl _) dX12_sunAt_70
      refine ⟨_, rfl, ?_, rfl⟩
      by_cases c : h < sDk P
      · exact sunK_of hR_E.2.2.1 hh c (by omega) hv
      · rcases hv with ⟨q1, q2⟩ | ⟨b, q1, q2, q3, q4⟩
        · exact Or.inl ⟨q1, if_neg c⟩
        · exfalso; omega
    · refine at_iload_n 15 X rfl rfl dX12_sunAt_14 rfl ?_
      refine at_aload_n 16 X rfl rfl dX12_sunAt_15 rfl ?_
      refine m_getR 19 X f_X12_23 k_125 r_125_12 dX12_sunAt_16 rfl ?_
      refine at_bipush 21 X (by decide) (by decide) dX12_sunAt_19 rfl ?_
      refine m_ialoadV 22 X 7 (by omega) ((sDk P : Nat) : Int) hR_E.1.2.2.2.2.2.2.2 k_129 e_129 (by omega) dX12_sunAt_21 rfl ?_
      have := hP.Dk
      refine at_icmp_ge 25 69 X dX12_sunAt_22 rfl (by decide) (fun h22 => ?_) (fun h22 => ?_)
      · refine at_iload_n 70 X rfl rfl dX12_sunAt_69 rfl ?_
        refine at_iret X Rt ?_ (Nat.le_refl _) (Nat.le_refl _) dX12_sunAt_70
        refine ⟨_, rfl, ?_, rfl⟩
        by_cases c : h < sDk P
        · exact sunK_of hR_E.2.2.1 hh c (by omega) hv
        · rcases hv with ⟨q1, q2⟩ | ⟨b, q1, q2, q3, q4⟩
          · exact Or.inl ⟨q1, if_neg c⟩
          · exfalso; omega
      · refine at_aload_n 26 X rfl rfl dX12_sunAt_25 rfl ?_
        refine m_getR 29 X f_X12_37 k_125 r_125_16 dX12_sunAt_26 rfl ?_
        refine at_iload_n 30 X rfl rfl dX12_sunAt_29 rfl ?_
        refine m_aaloadV 31 X k (by omega) k_166 (by decide) (by omega) (rr_166 _ (by omega)) dX12_sunAt_30 rfl ?_
        refine at_iconst 32 X (by decide) dX12_sunAt_31 rfl ?_
        refine m_ialoadV 33 X 0 (by omega) ((xTk Q k : Nat) : Int) (hR_E.2.2.1.2.1 k (by omega)).2.2.1 (kr_166 _ (by omega)) (er_166 _ (by omega)) (by omega) dX12_sunAt_32 rfl ?_
        have := (hR_E.2.2.1.2.1 k (by omega)).1
        refine at_iload_n 34 X rfl rfl dX12_sunAt_33 rfl ?_
        refine at_icmp_gt 37 63 X dX12_sunAt_34 rfl (by decide) (fun h34 => ?_) (fun h34 => ?_)
        · refine at_iincV 66 X ((k + 1 : Nat) : Int) (w32_v (by omega) (by omega) (by omega)) rfl dX12_sunAt_63 rfl (by decide) ?_
          refine at_goto 4 X dX12_sunAt_66 (by decide) ?_
          exact at_sub _ (by exact ⟨rfl, rfl, rfl, rfl, trivial⟩) (ih4 (k + 1) v (by first | omega | (simp only [] at *; omega)) (by first | omega | assumption) (Or.inr (by omega)) (by first
  | (rcases hv with ⟨q1, q2⟩ | ⟨b, q1, q2, q3, q4⟩
     · exact Or.inl ⟨q1, fun j hj => if e : j = k then by rw [e]; omega else q2 j (by omega)⟩
     · exact Or.inr ⟨b, by omega, q2, q3, fun j hj hj2 => if e : j = k then by rw [e] at hj2; omega else q4 j (by omega) hj2⟩)
  | exact Or.inr ⟨k, by omega, rfl, by omega, fun j hj hj2 => if e : j = k then by rw [e]; omega else by rcases hv with ⟨q1, q2⟩ | ⟨b, q1, q2, q3, q4⟩; (have := q2 j (by omega); omega); (omega)⟩
  | exact Or.inr ⟨k, by omega, rfl, by omega, fun j hj hj2 => if e : j = k then by rw [e]; omega else by have := hb4 j (by omega) hj2; omega⟩
  | exact Or.inr ⟨b, by omega, rfl, hb3, fun j hj hj2 => if e : j = k then by rw [e]; omega else hb4 j (by omega) hj2⟩))
        · refine at_iload_n 38 X rfl rfl dX12_sunAt_37 rfl ?_
          refine at_iconst 39 X (by decide) dX12_sunAt_38 rfl ?_
          refine at_icmp_eq 42 61 X dX12_sunAt_39 rfl (by decide) (fun h39 => ?_) (fun h39 => ?_)
          · refine at_iload_n 62 X rfl rfl dX12_sunAt_61 rfl ?_
            refine at_istore_n 63 X rfl dX12_sunAt_62 rfl (by decide) ?_
            refine at_iincV 66 X ((k + 1 : Nat) : Int) (w32_v (by omega) (by omega) (by omega)) rfl dX12_sunAt_63 rfl (by decide) ?_
            refine at_goto 4 X dX12_sunAt_66 (by decide) ?_
            exact at_sub _ (by exact ⟨rfl, rfl, rfl, rfl, trivial⟩) (ih4 (k + 1) ((k : Nat) : Int) (by first | omega | (simp only [] at *; omega)) (by first | omega | assumption) (Or.inr (by omega)) (by first
  | (rcases hv with ⟨q1, q2⟩ | ⟨b, q1, q2, q3, q4⟩
     · exact Or.inl ⟨q1, fun j hj => if e : j = k then by rw [e]; omega else q2 j (by omega)⟩
     · exact Or.inr ⟨b, by omega, q2, q3, fun j hj hj2 => if e : j = k then by rw [e] at hj2; omega else q4 j (by omega) hj2⟩)
  | exact Or.inr ⟨k, by omega, rfl, by omega, fun j hj hj2 => if e : j = k then by rw [e]; omega else by rcases hv with ⟨q1, q2⟩ | ⟨b, q1, q2, q3, q4⟩; (have := q2 j (by omega); omega); (omega)⟩
  | exact Or.inr ⟨k, by omega, rfl, by omega, fun j hj hj2 => if e : j = k then by rw [e]; omega else by have := hb4 j (by omega) hj2; omega⟩
  | exact Or.inr ⟨b, by omega, rfl, hb3, fun j hj hj2 => if e : j = k then by rw [e]; omega else hb4 j (by omega) hj2⟩))
          · obtain ⟨b, hb1, rfl, hb3, hb4⟩ := hv.resolve_left (fun q => by omega)
            refine at_aload_n 43 X rfl rfl dX12_sunAt_42 rfl ?_
            refine m_getR 46 X f_X12_37 k_125 r_125_16 dX12_sunAt_43 rfl ?_
            refine at_iload_n 47 X rfl rfl dX12_sunAt_46 rfl ?_
            refine m_aaloadV 48 X k (by omega) k_166 (by decide) (by omega) (rr_166 _ (by omega)) dX12_sunAt_47 rfl ?_
            refine at_iconst 49 X (by decide) dX12_sunAt_48 rfl ?_
            refine m_ialoadV 50 X 0 (by omega) ((xTk Q k : Nat) : Int) (hR_E.2.2.1.2.1 k (by omega)).2.2.1 (kr_166 _ (by omega)) (er_166 _ (by omega)) (by omega) dX12_sunAt_49 rfl ?_
            have := (hR_E.2.2.1.2.1 k (by omega)).1
            refine at_aload_n 51 X rfl rfl dX12_sunAt_50 rfl ?_
            refine m_getR 54 X f_X12_37 k_125 r_125_16 dX12_sunAt_51 rfl ?_
            refine at_iload_n 55 X rfl rfl dX12_sunAt_54 rfl ?_
            refine m_aaloadV 56 X b (by omega) k_166 (by decide) (by omega) (rr_166 _ (by omega)) dX12_sunAt_55 rfl ?_
            refine at_iconst 57 X (by decide) dX12_sunAt_56 rfl ?_
            refine m_ialoadV 58 X 0 (by omega) ((xTk Q b : Nat) : Int) (hR_E.2.2.1.2.1 b (by omega)).2.2.1 (kr_166 _ (by omega)) (er_166 _ (by omega)) (by omega) dX12_sunAt_57 rfl ?_
            have := (hR_E.2.2.1.2.1 b (by omega)).1
            refine at_icmp_le 61 63 X dX12_sunAt_58 rfl (by decide) (fun h58 => ?_) (fun h58 => ?_)
            · refine at_iincV 66 X ((k + 1 : Nat) : Int) (w32_v (by omega) (by omega) (by omega)) rfl dX12_sunAt_63 rfl (by decide) ?_
              refine at_goto 4 X dX12_sunAt_66 (by decide) ?_
              exact at_sub _ (by exact ⟨rfl, rfl, rfl, rfl, trivial⟩) (ih4 (k + 1) ((b : Nat) : Int) (by first | omega | (simp only [] at *; omega)) (by first | omega | assumption) (Or.inr (by omega)) (by first
  | (rcases hv with ⟨q1, q2⟩ | ⟨b, q1, q2, q3, q4⟩
     · exact Or.inl ⟨q1, fun j hj => if e : j = k then by rw [e]; omega else q2 j (by omega)⟩
     · exact Or.inr ⟨b, by omega, q2, q3, fun j hj hj2 => if e : j = k then by rw [e] at hj2; omega else q4 j (by omega) hj2⟩)
  | exact Or.inr ⟨k, by omega, rfl, by omega, fun j hj hj2 => if e : j = k then by rw [e]; omega else by rcases hv with ⟨q1, q2⟩ | ⟨b, q1, q2, q3, q4⟩; (have := q2 j (by omega); omega); (omega)⟩
  | exact Or.inr ⟨k, by omega, rfl, by omega, fun j hj hj2 => if e : j = k then by rw [e]; omega else by have := hb4 j (by omega) hj2; omega⟩
  | exact Or.inr ⟨b, by omega, rfl, hb3, fun j hj hj2 => if e : j = k then by rw [e]; omega else hb4 j (by omega) hj2⟩))
            · refine at_iload_n 62 X rfl rfl dX12_sunAt_61 rfl ?_
              refine at_istore_n 63 X rfl dX12_sunAt_62 rfl (by decide) ?_
              refine at_iincV 66 X ((k + 1 : Nat) : Int) (w32_v (by omega) (by omega) (by omega)) rfl dX12_sunAt_63 rfl (by decide) ?_
              refine at_goto 4 X dX12_sunAt_66 (by decide) ?_
              exact at_sub _ (by exact ⟨rfl, rfl, rfl, rfl, trivial⟩) (ih4 (k + 1) ((k : Nat) : Int) (by first | omega | (simp only [] at *; omega)) (by first | omega | assumption) (Or.inr (by omega)) (by first
  | (rcases hv with ⟨q1, q2⟩ | ⟨b, q1, q2, q3, q4⟩
     · exact Or.inl ⟨q1, fun j hj => if e : j = k then by rw [e]; omega else q2 j (by omega)⟩
     · exact Or.inr ⟨b, by omega, q2, q3, fun j hj hj2 => if e : j = k then by rw [e] at hj2; omega else q4 j (by omega) hj2⟩)
  | exact Or.inr ⟨k, by omega, rfl, by omega, fun j hj hj2 => if e : j = k then by rw [e]; omega else by rcases hv with ⟨q1, q2⟩ | ⟨b, q1, q2, q3, q4⟩; (have := q2 j (by omega); omega); (omega)⟩
  | exact Or.inr ⟨k, by omega, rfl, by omega, fun j hj hj2 => if e : j = k then by rw [e]; omega else by have := hb4 j (by omega) hj2; omega⟩
  | exact Or.inr ⟨b, by omega, rfl, hb3, fun j hj hj2 => if e : j = k then by rw [e]; omega else hb4 j (by omega) hj2⟩))
  exact at_sub _ (by exact ⟨rfl, rfl, rfl, rfl, trivial⟩) (J4 _ 0 (-1) (Nat.lt_succ_self _) (by first | omega | assumption | rfl) (Or.inl rfl) (Or.inl ⟨rfl, fun j hj => absurd hj (Nat.not_lt_zero j)⟩))
theorem dX12_lightOf_0 : decode cX12_lightOf 0 = .ok (.aload_n 0, 1) := by decide +kernel
theorem dX12_lightOf_1 : decode cX12_lightOf 1 = .ok (.iload_n 1, 1) := by decide +kernel
theorem dX12_lightOf_2 : decode cX12_lightOf 2 = .ok (.invokevirtual 342, 3) := by decide +kernel
theorem dX12_lightOf_5 : decode cX12_lightOf 5 = .ok (.istore 4, 2) := by decide +kernel
theorem dX12_lightOf_7 : decode cX12_lightOf 7 = .ok (.iload 4, 2) := by decide +kernel
theorem dX12_lightOf_9 : decode cX12_lightOf 9 = .ok (.iconst (-1), 1) := by decide +kernel
theorem dX12_lightOf_10 : decode cX12_lightOf 10 = .ok (.if_icmp .ne 11, 3) := by decide +kernel
theorem dX12_lightOf_13 : decode cX12_lightOf 13 = .ok (.aload_n 0, 1) := by decide +kernel
theorem dX12_lightOf_14 : decode cX12_lightOf 14 = .ok (.iload_n 2, 1) := by decide +kernel
theorem dX12_lightOf_15 : decode cX12_lightOf 15 = .ok (.invokevirtual 345, 3) := by decide +kernel
theorem dX12_lightOf_18 : decode cX12_lightOf 18 = .ok (.goto 4, 3) := by decide +kernel
theorem dX12_lightOf_21 : decode cX12_lightOf 21 = .ok (.iconst (-1), 1) := by decide +kernel
theorem dX12_lightOf_22 : decode cX12_lightOf 22 = .ok (.istore 5, 2) := by decide +kernel
theorem dX12_lightOf_24 : decode cX12_lightOf 24 = .ok (.iload 4, 2) := by decide +kernel
theorem dX12_lightOf_26 : decode cX12_lightOf 26 = .ok (.iconst (-1), 1) := by decide +kernel
theorem dX12_lightOf_27 : decode cX12_lightOf 27 = .ok (.if_icmp .eq 23, 3) := by decide +kernel
theorem dX12_lightOf_30 : decode cX12_lightOf 30 = .ok (.iload_n 3, 1) := by decide +kernel
theorem dX12_lightOf_31 : decode cX12_lightOf 31 = .ok (.ifCond .ne 7, 3) := by decide +kernel
theorem dX12_lightOf_34 : decode cX12_lightOf 34 = .ok (.iconst 1, 1) := by decide +kernel
theorem dX12_lightOf_35 : decode cX12_lightOf 35 = .ok (.goto 14, 3) := by decide +kernel
theorem dX12_lightOf_38 : decode cX12_lightOf 38 = .ok (.aload_n 0, 1) := by decide +kernel
theorem dX12_lightOf_39 : decode cX12_lightOf 39 = .ok (.getfield 37, 3) := by decide +kernel
theorem dX12_lightOf_42 : decode cX12_lightOf 42 = .ok (.iload 4, 2) := by decide +kernel
theorem dX12_lightOf_44 : decode cX12_lightOf 44 = .ok (.aaload, 1) := by decide +kernel
theorem dX12_lightOf_45 : decode cX12_lightOf 45 = .ok (.iconst 3, 1) := by decide +kernel
theorem dX12_lightOf_46 : decode cX12_lightOf 46 = .ok (.iload_n 3, 1) := by decide +kernel
theorem dX12_lightOf_47 : decode cX12_lightOf 47 = .ok (.isub, 1) := by decide +kernel
theorem dX12_lightOf_48 : decode cX12_lightOf 48 = .ok (.iaload, 1) := by decide +kernel
theorem dX12_lightOf_49 : decode cX12_lightOf 49 = .ok (.ireturn, 1) := by decide +kernel
theorem dX12_lightOf_50 : decode cX12_lightOf 50 = .ok (.iload 5, 2) := by decide +kernel
theorem dX12_lightOf_52 : decode cX12_lightOf 52 = .ok (.iconst (-1), 1) := by decide +kernel
theorem dX12_lightOf_53 : decode cX12_lightOf 53 = .ok (.if_icmp .ne 7, 3) := by decide +kernel
theorem dX12_lightOf_56 : decode cX12_lightOf 56 = .ok (.iconst 0, 1) := by decide +kernel
theorem dX12_lightOf_57 : decode cX12_lightOf 57 = .ok (.goto 29, 3) := by decide +kernel
theorem dX12_lightOf_60 : decode cX12_lightOf 60 = .ok (.iload_n 3, 1) := by decide +kernel
theorem dX12_lightOf_61 : decode cX12_lightOf 61 = .ok (.ifCond .ne 7, 3) := by decide +kernel
theorem dX12_lightOf_64 : decode cX12_lightOf 64 = .ok (.iconst 2, 1) := by decide +kernel
theorem dX12_lightOf_65 : decode cX12_lightOf 65 = .ok (.goto 21, 3) := by decide +kernel
theorem dX12_lightOf_68 : decode cX12_lightOf 68 = .ok (.iload_n 3, 1) := by decide +kernel
theorem dX12_lightOf_69 : decode cX12_lightOf 69 = .ok (.iconst 1, 1) := by decide +kernel
theorem dX12_lightOf_70 : decode cX12_lightOf 70 = .ok (.if_icmp .ne 15, 3) := by decide +kernel
theorem dX12_lightOf_73 : decode cX12_lightOf 73 = .ok (.aload_n 0, 1) := by decide +kernel
theorem dX12_lightOf_74 : decode cX12_lightOf 74 = .ok (.getfield 43, 3) := by decide +kernel
theorem dX12_lightOf_77 : decode cX12_lightOf 77 = .ok (.iload 5, 2) := by decide +kernel
theorem dX12_lightOf_79 : decode cX12_lightOf 79 = .ok (.aaload, 1) := by decide +kernel
theorem dX12_lightOf_80 : decode cX12_lightOf 80 = .ok (.iconst 2, 1) := by decide +kernel
theorem dX12_lightOf_81 : decode cX12_lightOf 81 = .ok (.iaload, 1) := by decide +kernel
theorem dX12_lightOf_82 : decode cX12_lightOf 82 = .ok (.goto 4, 3) := by decide +kernel
theorem dX12_lightOf_85 : decode cX12_lightOf 85 = .ok (.iconst 1, 1) := by decide +kernel
theorem dX12_lightOf_86 : decode cX12_lightOf 86 = .ok (.ireturn, 1) := by decide +kernel
theorem ct_X12_lightOf0 {g : Gw} (hG : GF g) {z : Bool} (E : Mm) (P : SP) (Q : RX) (hP : WS P) (hR_E : RTS E P Q) (h d : Nat) (hh : h < 24) (hd : d < 400) : CT g yX12_lightOf cX12_lightOf 6 (some .int) 1 23 0 0 K2 z [mR 125, mI ((h : Nat) : Int), mI ((d : Nat) : Int), mI 0] (ov E) K2 z (fun r D' => r = some (mI (lkP P (moonP P d) h : Nat)) ∧ D' = ov E) := by
  refine CT.mk hG (by decide +kernel) (Nat.le_of_ble_eq_true rfl) (fun κ X Rt _ ok => ?_)
  refine at_aload_n 1 X rfl rfl dX12_lightOf_0 rfl ?_
  refine at_iload_n 2 X rfl rfl dX12_lightOf_1 rfl ?_
  refine at_callV 5 X _ 12 (ct_X12_sunAt hG E P Q hP hR_E h (by omega)) clX12 rfl k_125 mo_X12_sunAt w_2142 vo_X12_sunAt.1 vo_X12_sunAt.2 rfl rfl (crm Rt (by decide)) (Nat.le_of_ble_eq_true rfl) dX12_lightOf_2 rfl ?_
  rintro _ _ ⟨sv, rfl, hsv, rfl⟩
  have hs1 := sunP_in P h
  refine at_istore 7 X dX12_lightOf_5 rfl (by decide) ?_
  refine at_iload 9 X rfl dX12_lightOf_7 rfl ?_
  refine at_iconst 10 X (by decide) dX12_lightOf_9 rfl ?_
  refine at_icmp_ne 13 21 X dX12_lightOf_10 rfl (by decide) (fun h10 => ?_) (fun h10 => ?_)
  · refine at_iconst 22 X (by decide) dX12_lightOf_21 rfl ?_
    refine at_istore 24 X dX12_lightOf_22 rfl (by decide) ?_
    refine at_iload 26 X rfl dX12_lightOf_24 rfl ?_
    refine at_iconst 27 X (by decide) dX12_lightOf_26 rfl ?_
    refine at_icmp_eq 30 50 X dX12_lightOf_27 rfl (by decide) (fun h27 => ?_) (fun h27 => ?_)
    · refine at_iload 52 X rfl dX12_lightOf_50 rfl ?_
      refine at_iconst 53 X (by decide) dX12_lightOf_52 rfl ?_
      refine at_icmp_ne 56 60 X dX12_lightOf_53 rfl (by decide) (fun h53 => ?_) (fun h53 => ?_)
      · exact absurd h53 (by decide)
      · refine at_iconst 57 X (by decide) dX12_lightOf_56 rfl ?_
        refine at_goto 86 X dX12_lightOf_57 (by decide) ?_
        refine at_iret X Rt ?_ (Nat.le_refl _) (Nat.le_refl _) dX12_lightOf_86
        refine ⟨?_, rfl⟩
        unfold lkP
        first
          | (rw [if_pos (by rcases hsv with q | ⟨k, q1, q2, q3⟩ <;> omega)]; rfl)
          | (rw [if_neg (by rcases hsv with q | ⟨k, q1, q2, q3⟩ <;> omega), if_pos (by omega)]; rfl)
          | (rw [if_neg (by rcases hsv with q | ⟨k, q1, q2, q3⟩ <;> omega), if_neg (by omega)]; rfl)
    · refine at_iload_n 31 X rfl rfl dX12_lightOf_30 rfl ?_
      refine at_if_ne 34 38 X dX12_lightOf_31 rfl (by decide) (fun h31 => ?_) (fun h31 => ?_)
      · exact absurd h31 (by decide)
      · refine at_iconst 35 X (by decide) dX12_lightOf_34 rfl ?_
        refine at_goto 49 X dX12_lightOf_35 (by decide) ?_
        refine at_iret X Rt ?_ (Nat.le_refl _) (Nat.le_refl _) dX12_lightOf_49
        refine ⟨?_, rfl⟩
        unfold lkP
        first
          | (rw [if_pos (by rcases hsv with q | ⟨k, q1, q2, q3⟩ <;> omega)]; rfl)
          | (rw [if_neg (by rcases hsv with q | ⟨k, q1, q2, q3⟩ <;> omega), if_pos (by omega)]; rfl)
          | (rw [if_neg (by rcases hsv with q | ⟨k, q1, q2, q3⟩ <;> omega), if_neg (by omega)]; rfl)
  · refine at_aload_n 14 X rfl rfl dX12_lightOf_13 rfl ?_
    refine at_iload_n 15 X rfl rfl dX12_lightOf_14 rfl ?_
    refine at_callV 18 X _ 12 (ct_X12_moonOf hG E P Q hP hR_E d (by omega)) clX12 rfl k_125 mo_X12_moonOf w_2146 vo_X12_moonOf.1 vo_X12_moonOf.2 rfl rfl (crm Rt (by decide)) (Nat.le_of_ble_eq_true rfl) dX12_lightOf_15 rfl ?_
    rintro _ _ ⟨rfl, rfl⟩
    have hmo := moonP_in P d
    refine at_goto 22 X dX12_lightOf_18 (by decide) ?_
    refine at_istore 24 X dX12_lightOf_22 rfl (by decide) ?_
    refine at_iload 26 X rfl dX12_lightOf_24 rfl ?_
    refine at_iconst 27 X (by decide) dX12_lightOf_26 rfl ?_
    refine at_icmp_eq 30 50 X dX12_lightOf_27 rfl (by decide) (fun h27 => ?_) (fun h27 => ?_)
    · refine at_iload 52 X rfl dX12_lightOf_50 rfl ?_
      refine at_iconst 53 X (by decide) dX12_lightOf_52 rfl ?_
      refine at_icmp_ne 56 60 X dX12_lightOf_53 rfl (by decide) (fun h53 => ?_) (fun h53 => ?_)
      · refine at_iload_n 61 X rfl rfl dX12_lightOf_60 rfl ?_
        refine at_if_ne 64 68 X dX12_lightOf_61 rfl (by decide) (fun h61 => ?_) (fun h61 => ?_)
        · exact absurd h61 (by decide)
        · refine at_iconst 65 X (by decide) dX12_lightOf_64 rfl ?_
          refine at_goto 86 X dX12_lightOf_65 (by decide) ?_
          refine at_iret X Rt ?_ (Nat.le_refl _) (Nat.le_refl _) dX12_lightOf_86
          refine ⟨?_, rfl⟩
          unfold lkP
          first
            | (rw [if_pos (by rcases hsv with q | ⟨k, q1, q2, q3⟩ <;> omega)]; rfl)
            | (rw [if_neg (by rcases hsv with q | ⟨k, q1, q2, q3⟩ <;> omega), if_pos (by omega)]; rfl)
            | (rw [if_neg (by rcases hsv with q | ⟨k, q1, q2, q3⟩ <;> omega), if_neg (by omega)]; rfl)
      · refine at_iconst 57 X (by decide) dX12_lightOf_56 rfl ?_
        refine at_goto 86 X dX12_lightOf_57 (by decide) ?_
        refine at_iret X Rt ?_ (Nat.le_refl _) (Nat.le_refl _) dX12_lightOf_86
        refine ⟨?_, rfl⟩
        unfold lkP
        first
          | (rw [if_pos (by rcases hsv with q | ⟨k, q1, q2, q3⟩ <;> omega)]; rfl)
          | (rw [if_neg (by rcases hsv with q | ⟨k, q1, q2, q3⟩ <;> omega), if_pos (by omega)]; rfl)
          | (rw [if_neg (by rcases hsv with q | ⟨k, q1, q2, q3⟩ <;> omega), if_neg (by omega)]; rfl)
    · refine at_iload_n 31 X rfl rfl dX12_lightOf_30 rfl ?_
      refine at_if_ne 34 38 X dX12_lightOf_31 rfl (by decide) (fun h31 => ?_) (fun h31 => ?_)
      · exact absurd h31 (by decide)
      · refine at_iconst 35 X (by decide) dX12_lightOf_34 rfl ?_
        refine at_goto 49 X dX12_lightOf_35 (by decide) ?_
        refine at_iret X Rt ?_ (Nat.le_refl _) (Nat.le_refl _) dX12_lightOf_49
        refine ⟨?_, rfl⟩
        unfold lkP
        first
          | (rw [if_pos (by rcases hsv with q | ⟨k, q1, q2, q3⟩ <;> omega)]; rfl)
          | (rw [if_neg (by rcases hsv with q | ⟨k, q1, q2, q3⟩ <;> omega), if_pos (by omega)]; rfl)
          | (rw [if_neg (by rcases hsv with q | ⟨k, q1, q2, q3⟩ <;> omega), if_neg (by omega)]; rfl)
theorem ct_X12_lightOf1 {g : Gw} (hG : GF g) {z : Bool} (E : Mm) (P : SP) (Q : RX) (hP : WS P) (hR_E : RTS E P Q) (h d : Nat) (hh : h < 24) (hd : d < 400) : CT g yX12_lightOf cX12_lightOf 6 (some .int) 1 23 0 0 K2 z [mR 125, mI ((h : Nat) : Int), mI ((d : Nat) : Int), mI 1] (ov E) K2 z (fun r D' => r = some (mI (ltP P (moonP P d) h : Nat)) ∧ D' = ov E) := by
  refine CT.mk hG (by decide +kernel) (Nat.le_of_ble_eq_true rfl) (fun κ X Rt _ ok => ?_)
  refine at_aload_n 1 X rfl rfl dX12_lightOf_0 rfl ?_
  refine at_iload_n 2 X rfl rfl dX12_lightOf_1 rfl ?_
  refine at_callV 5 X _ 12 (ct_X12_sunAt hG E P Q hP hR_E h (by omega)) clX12 rfl k_125 mo_X12_sunAt w_2142 vo_X12_sunAt.1 vo_X12_sunAt.2 rfl rfl (crm Rt (by decide)) (Nat.le_of_ble_eq_true rfl) dX12_lightOf_2 rfl ?_
  rintro _ _ ⟨sv, rfl, hsv, rfl⟩
  have hs1 := sunP_in P h
  refine at_istore 7 X dX12_lightOf_5 rfl (by decide) ?_
  refine at_iload 9 X rfl dX12_lightOf_7 rfl ?_
  refine at_iconst 10 X (by decide) dX12_lightOf_9 rfl ?_
  refine at_icmp_ne 13 21 X dX12_lightOf_10 rfl (by decide) (fun h10 => ?_) (fun h10 => ?_)
  · refine at_iconst 22 X (by decide) dX12_lightOf_21 rfl ?_
    refine at_istore 24 X dX12_lightOf_22 rfl (by decide) ?_
    refine at_iload 26 X rfl dX12_lightOf_24 rfl ?_
    refine at_iconst 27 X (by decide) dX12_lightOf_26 rfl ?_
    refine at_icmp_eq 30 50 X dX12_lightOf_27 rfl (by decide) (fun h27 => ?_) (fun h27 => ?_)
    · refine at_iload 52 X rfl dX12_lightOf_50 rfl ?_
      refine at_iconst 53 X (by decide) dX12_lightOf_52 rfl ?_
      refine at_icmp_ne 56 60 X dX12_lightOf_53 rfl (by decide) (fun h53 => ?_) (fun h53 => ?_)
      · exact absurd h53 (by decide)
      · refine at_iconst 57 X (by decide) dX12_lightOf_56 rfl ?_
        refine at_goto 86 X dX12_lightOf_57 (by decide) ?_
        refine at_iret X Rt ?_ (Nat.le_refl _) (Nat.le_refl _) dX12_lightOf_86
        refine ⟨?_, rfl⟩
        unfold ltP
        first
          | (rw [if_pos (show 0 ≤ sunP P h by omega), ← hk3, Int.toNat_natCast]; have := hP.Sl (t := xTk Q k) (by omega); have := (hR_E.2.2.1.2.1 k hk1).2.1; exact congrArg (fun q => some (mI q)) (by omega))
          | (rw [if_neg (show ¬ 0 ≤ sunP P h by rcases hsv with q | ⟨k, q1, q2, q3⟩ <;> omega), if_pos (show 0 ≤ moonP P d by omega), hm, Int.toNat_natCast]; done)
          | (rw [if_neg (show ¬ 0 ≤ sunP P h by rcases hsv with q | ⟨k, q1, q2, q3⟩ <;> omega), if_neg (show ¬ 0 ≤ moonP P d by omega)]; rfl)
    · refine at_iload_n 31 X rfl rfl dX12_lightOf_30 rfl ?_
      refine at_if_ne 34 38 X dX12_lightOf_31 rfl (by decide) (fun h31 => ?_) (fun h31 => ?_)
      · have hxn := hR_E.2.2.1.1
        obtain ⟨k, hk1, rfl, hk3⟩ := (hsv.resolve_left (fun q => by omega))
        refine at_aload_n 39 X rfl rfl dX12_lightOf_38 rfl ?_
        refine m_getR 42 X f_X12_37 k_125 r_125_16 dX12_lightOf_39 rfl ?_
        refine at_iload 44 X rfl dX12_lightOf_42 rfl ?_
        refine m_aaloadV 45 X k (by omega) k_166 (by decide) (by omega) (rr_166 _ (by omega)) dX12_lightOf_44 rfl ?_
        refine at_iconst 46 X (by decide) dX12_lightOf_45 rfl ?_
        refine at_iload_n 47 X rfl rfl dX12_lightOf_46 rfl ?_
        refine at_isubV 48 X 2 (w32_v (by decide) (by decide) (by decide)) dX12_lightOf_47 rfl ?_
        refine m_ialoadV 49 X 2 (by omega) (sSl P (xTk Q k)) (hR_E.2.2.1.2.1 k (by omega)).2.2.2.2 (kr_166 _ (by omega)) (er_166 _ (by omega)) (by omega) dX12_lightOf_48 rfl ?_
        refine at_iret X Rt ?_ (Nat.le_refl _) (Nat.le_refl _) dX12_lightOf_49
        refine ⟨?_, rfl⟩
        unfold ltP
        first
          | (rw [if_pos (show 0 ≤ sunP P h by omega), ← hk3, Int.toNat_natCast]; have := hP.Sl (t := xTk Q k) (by omega); have := (hR_E.2.2.1.2.1 k hk1).2.1; exact congrArg (fun q => some (mI q)) (by omega))
          | (rw [if_neg (show ¬ 0 ≤ sunP P h by rcases hsv with q | ⟨k, q1, q2, q3⟩ <;> omega), if_pos (show 0 ≤ moonP P d by omega), hm, Int.toNat_natCast]; done)
          | (rw [if_neg (show ¬ 0 ≤ sunP P h by rcases hsv with q | ⟨k, q1, q2, q3⟩ <;> omega), if_neg (show ¬ 0 ≤ moonP P d by omega)]; rfl)
      · exact absurd h31 (by decide)
  · refine at_aload_n 14 X rfl rfl dX12_lightOf_13 rfl ?_
    refine at_iload_n 15 X rfl rfl dX12_lightOf_14 rfl ?_
    refine at_callV 18 X _ 12 (ct_X12_moonOf hG E P Q hP hR_E d (by omega)) clX12 rfl k_125 mo_X12_moonOf w_2146 vo_X12_moonOf.1 vo_X12_moonOf.2 rfl rfl (crm Rt (by decide)) (Nat.le_of_ble_eq_true rfl) dX12_lightOf_15 rfl ?_
    rintro _ _ ⟨rfl, rfl⟩
    have hmo := moonP_in P d
    refine at_goto 22 X dX12_lightOf_18 (by decide) ?_
    refine at_istore 24 X dX12_lightOf_22 rfl (by decide) ?_
    refine at_iload 26 X rfl dX12_lightOf_24 rfl ?_
    refine at_iconst 27 X (by decide) dX12_lightOf_26 rfl ?_
    refine at_icmp_eq 30 50 X dX12_lightOf_27 rfl (by decide) (fun h27 => ?_) (fun h27 => ?_)
    · refine at_iload 52 X rfl dX12_lightOf_50 rfl ?_
      refine at_iconst 53 X (by decide) dX12_lightOf_52 rfl ?_
      refine at_icmp_ne 56 60 X dX12_lightOf_53 rfl (by decide) (fun h53 => ?_) (fun h53 => ?_)
      · refine at_iload_n 61 X rfl rfl dX12_lightOf_60 rfl ?_
        refine at_if_ne 64 68 X dX12_lightOf_61 rfl (by decide) (fun h61 => ?_) (fun h61 => ?_)
        · refine at_iload_n 69 X rfl rfl dX12_lightOf_68 rfl ?_
          refine at_iconst 70 X (by decide) dX12_lightOf_69 rfl ?_
          refine at_icmp_ne 73 85 X dX12_lightOf_70 rfl (by decide) (fun h70 => ?_) (fun h70 => ?_)
          · exact absurd h70 (by decide)
          · have hM3 := hP.M
            obtain ⟨m, hm⟩ : ∃ m : Nat, moonP P d = (m : Int) := ⟨(moonP P d).toNat, by omega⟩
            rw [hm]
            refine at_aload_n 74 X rfl rfl dX12_lightOf_73 rfl ?_
            refine m_getR 77 X f_X12_43 k_125 r_125_18 dX12_lightOf_74 rfl ?_
            refine at_iload 79 X rfl dX12_lightOf_77 rfl ?_
            refine m_aaloadV 80 X m (by omega) k_183 (by decide) (by omega) (rr_183 _ (by omega)) dX12_lightOf_79 rfl ?_
            refine at_iconst 81 X (by decide) dX12_lightOf_80 rfl ?_
            refine m_ialoadV 82 X 2 (by omega) ((sMn P m : Nat) : Int) (hR_E.2.2.2.1 m (by omega)).2.2 (kr_183 _ (by omega)) (er_183 _ (by omega)) (by omega) dX12_lightOf_81 rfl ?_
            have := hP.Mn (m := m) (by omega)
            refine at_goto 86 X dX12_lightOf_82 (by decide) ?_
            refine at_iret X Rt ?_ (Nat.le_refl _) (Nat.le_refl _) dX12_lightOf_86
            refine ⟨?_, rfl⟩
            unfold ltP
            first
              | (rw [if_pos (show 0 ≤ sunP P h by omega), ← hk3, Int.toNat_natCast]; have := hP.Sl (t := xTk Q k) (by omega); have := (hR_E.2.2.1.2.1 k hk1).2.1; exact congrArg (fun q => some (mI q)) (by omega))
              | (rw [if_neg (show ¬ 0 ≤ sunP P h by rcases hsv with q | ⟨k, q1, q2, q3⟩ <;> omega), if_pos (show 0 ≤ moonP P d by omega), hm, Int.toNat_natCast]; done)
              | (rw [if_neg (show ¬ 0 ≤ sunP P h by rcases hsv with q | ⟨k, q1, q2, q3⟩ <;> omega), if_neg (show ¬ 0 ≤ moonP P d by omega)]; rfl)
        · exact absurd h61 (by decide)
      · refine at_iconst 57 X (by decide) dX12_lightOf_56 rfl ?_
        refine at_goto 86 X dX12_lightOf_57 (by decide) ?_
        refine at_iret X Rt ?_ (Nat.le_refl _) (Nat.le_refl _) dX12_lightOf_86
        refine ⟨?_, rfl⟩
        unfold ltP
        first
          | (rw [if_pos (show 0 ≤ sunP P h by omega), ← hk3, Int.toNat_natCast]; have := hP.Sl (t := xTk Q k) (by omega); have := (hR_E.2.2.1.2.1 k hk1).2.1; exact congrArg (fun q => some (mI q)) (by omega))
          | (rw [if_neg (show ¬ 0 ≤ sunP P h by rcases hsv with q | ⟨k, q1, q2, q3⟩ <;> omega), if_pos (show 0 ≤ moonP P d by omega), hm, Int.toNat_natCast]; done)
          | (rw [if_neg (show ¬ 0 ≤ sunP P h by rcases hsv with q | ⟨k, q1, q2, q3⟩ <;> omega), if_neg (show ¬ 0 ≤ moonP P d by omega)]; rfl)
    · refine at_iload_n 31 X rfl rfl dX12_lightOf_30 rfl ?_
      refine at_if_ne 34 38 X dX12_lightOf_31 rfl (by decide) (fun h31 => ?_) (fun h31 => ?_)
      · have hxn := hR_E.2.2.1.1
        obtain ⟨k, hk1, rfl, hk3⟩ := (hsv.resolve_left (fun q => by omega))
        refine at_aload_n 39 X rfl rfl dX12_lightOf_38 rfl ?_
        refine m_getR 42 X f_X12_37 k_125 r_125_16 dX12_lightOf_39 rfl ?_
        refine at_iload 44 X rfl dX12_lightOf_42 rfl ?_
        refine m_aaloadV 45 X k (by omega) k_166 (by decide) (by omega) (rr_166 _ (by omega)) dX12_lightOf_44 rfl ?_
        refine at_iconst 46 X (by decide) dX12_lightOf_45 rfl ?_
        refine at_iload_n 47 X rfl rfl dX12_lightOf_46 rfl ?_
        refine at_isubV 48 X 2 (w32_v (by decide) (by decide) (by decide)) dX12_lightOf_47 rfl ?_
        refine m_ialoadV 49 X 2 (by omega) (sSl P (xTk Q k)) (hR_E.2.2.1.2.1 k (by omega)).2.2.2.2 (kr_166 _ (by omega)) (er_166 _ (by omega)) (by omega) dX12_lightOf_48 rfl ?_
        refine at_iret X Rt ?_ (Nat.le_refl _) (Nat.le_refl _) dX12_lightOf_49
        refine ⟨?_, rfl⟩
        unfold ltP
        first
          | (rw [if_pos (show 0 ≤ sunP P h by omega), ← hk3, Int.toNat_natCast]; have := hP.Sl (t := xTk Q k) (by omega); have := (hR_E.2.2.1.2.1 k hk1).2.1; exact congrArg (fun q => some (mI q)) (by omega))
          | (rw [if_neg (show ¬ 0 ≤ sunP P h by rcases hsv with q | ⟨k, q1, q2, q3⟩ <;> omega), if_pos (show 0 ≤ moonP P d by omega), hm, Int.toNat_natCast]; done)
          | (rw [if_neg (show ¬ 0 ≤ sunP P h by rcases hsv with q | ⟨k, q1, q2, q3⟩ <;> omega), if_neg (show ¬ 0 ≤ moonP P d by omega)]; rfl)
      · exact absurd h31 (by decide)
theorem ct_X12_lightOf2 {g : Gw} (hG : GF g) {z : Bool} (E : Mm) (P : SP) (Q : RX) (hP : WS P) (hR_E : RTS E P Q) (h d : Nat) (hh : h < 24) (hd : d < 400) : CT g yX12_lightOf cX12_lightOf 6 (some .int) 1 23 0 0 K2 z [mR 125, mI ((h : Nat) : Int), mI ((d : Nat) : Int), mI 2] (ov E) K2 z (fun r D' => r = some (mI (if lrP P (moonP P d) h then 1 else 0)) ∧ D' = ov E) := by
  refine CT.mk hG (by decide +kernel) (Nat.le_of_ble_eq_true rfl) (fun κ X Rt _ ok => ?_)
  refine at_aload_n 1 X rfl rfl dX12_lightOf_0 rfl ?_
  refine at_iload_n 2 X rfl rfl dX12_lightOf_1 rfl ?_
  refine at_callV 5 X _ 12 (ct_X12_sunAt hG E P Q hP hR_E h (by omega)) clX12 rfl k_125 mo_X12_sunAt w_2142 vo_X12_sunAt.1 vo_X12_sunAt.2 rfl rfl (crm Rt (by decide)) (Nat.le_of_ble_eq_true rfl) dX12_lightOf_2 rfl ?_
  rintro _ _ ⟨sv, rfl, hsv, rfl⟩
  have hs1 := sunP_in P h
  refine at_istore 7 X dX12_lightOf_5 rfl (by decide) ?_
  refine at_iload 9 X rfl dX12_lightOf_7 rfl ?_
  refine at_iconst 10 X (by decide) dX12_lightOf_9 rfl ?_
  refine at_icmp_ne 13 21 X dX12_lightOf_10 rfl (by decide) (fun h10 => ?_) (fun h10 => ?_)
  · refine at_iconst 22 X (by decide) dX12_lightOf_21 rfl ?_
    refine at_istore 24 X dX12_lightOf_22 rfl (by decide) ?_
    refine at_iload 26 X rfl dX12_lightOf_24 rfl ?_
    refine at_iconst 27 X (by decide) dX12_lightOf_26 rfl ?_
    refine at_icmp_eq 30 50 X dX12_lightOf_27 rfl (by decide) (fun h27 => ?_) (fun h27 => ?_)
    · refine at_iload 52 X rfl dX12_lightOf_50 rfl ?_
      refine at_iconst 53 X (by decide) dX12_lightOf_52 rfl ?_
      refine at_icmp_ne 56 60 X dX12_lightOf_53 rfl (by decide) (fun h53 => ?_) (fun h53 => ?_)
      · exact absurd h53 (by decide)
      · refine at_iconst 57 X (by decide) dX12_lightOf_56 rfl ?_
        refine at_goto 86 X dX12_lightOf_57 (by decide) ?_
        refine at_iret X Rt ?_ (Nat.le_refl _) (Nat.le_refl _) dX12_lightOf_86
        refine ⟨?_, rfl⟩
        first
          | (rw [show lrP P (moonP P d) h = sSw P (xTk Q k) from by unfold lrP; rw [if_pos (show 0 ≤ sunP P h by omega), ← hk3, Int.toNat_natCast]]; done)
          | (rw [show lrP P (moonP P d) h = true from by unfold lrP; rw [if_neg (show ¬ 0 ≤ sunP P h by rcases hsv with q | ⟨k, q1, q2, q3⟩ <;> omega), decide_eq_true (by omega)]]; rfl)
          | (rw [show lrP P (moonP P d) h = false from by unfold lrP; rw [if_neg (show ¬ 0 ≤ sunP P h by rcases hsv with q | ⟨k, q1, q2, q3⟩ <;> omega), decide_eq_false (by omega)]]; rfl)
    · refine at_iload_n 31 X rfl rfl dX12_lightOf_30 rfl ?_
      refine at_if_ne 34 38 X dX12_lightOf_31 rfl (by decide) (fun h31 => ?_) (fun h31 => ?_)
      · have hxn := hR_E.2.2.1.1
        obtain ⟨k, hk1, rfl, hk3⟩ := (hsv.resolve_left (fun q => by omega))
        refine at_aload_n 39 X rfl rfl dX12_lightOf_38 rfl ?_
        refine m_getR 42 X f_X12_37 k_125 r_125_16 dX12_lightOf_39 rfl ?_
        refine at_iload 44 X rfl dX12_lightOf_42 rfl ?_
        refine m_aaloadV 45 X k (by omega) k_166 (by decide) (by omega) (rr_166 _ (by omega)) dX12_lightOf_44 rfl ?_
        refine at_iconst 46 X (by decide) dX12_lightOf_45 rfl ?_
        refine at_iload_n 47 X rfl rfl dX12_lightOf_46 rfl ?_
        refine at_isubV 48 X 1 (w32_v (by decide) (by decide) (by decide)) dX12_lightOf_47 rfl ?_
        refine m_ialoadV 49 X 1 (by omega) (if sSw P (xTk Q k) then 1 else 0) (hR_E.2.2.1.2.1 k (by omega)).2.2.2.1 (kr_166 _ (by omega)) (er_166 _ (by omega)) (by omega) dX12_lightOf_48 rfl ?_
        refine at_iret X Rt ?_ (Nat.le_refl _) (Nat.le_refl _) dX12_lightOf_49
        refine ⟨?_, rfl⟩
        first
          | (rw [show lrP P (moonP P d) h = sSw P (xTk Q k) from by unfold lrP; rw [if_pos (show 0 ≤ sunP P h by omega), ← hk3, Int.toNat_natCast]]; done)
          | (rw [show lrP P (moonP P d) h = true from by unfold lrP; rw [if_neg (show ¬ 0 ≤ sunP P h by rcases hsv with q | ⟨k, q1, q2, q3⟩ <;> omega), decide_eq_true (by omega)]]; rfl)
          | (rw [show lrP P (moonP P d) h = false from by unfold lrP; rw [if_neg (show ¬ 0 ≤ sunP P h by rcases hsv with q | ⟨k, q1, q2, q3⟩ <;> omega), decide_eq_false (by omega)]]; rfl)
      · exact absurd h31 (by decide)
  · refine at_aload_n 14 X rfl rfl dX12_lightOf_13 rfl ?_
    refine at_iload_n 15 X rfl rfl dX12_lightOf_14 rfl ?_
    refine at_callV 18 X _ 12 (ct_X12_moonOf hG E P Q hP hR_E d (by omega)) clX12 rfl k_125 mo_X12_moonOf w_2146 vo_X12_moonOf.1 vo_X12_moonOf.2 rfl rfl (crm Rt (by decide)) (Nat.le_of_ble_eq_true rfl) dX12_lightOf_15 rfl ?_
    rintro _ _ ⟨rfl, rfl⟩
    have hmo := moonP_in P d
    refine at_goto 22 X dX12_lightOf_18 (by decide) ?_
    refine at_istore 24 X dX12_lightOf_22 rfl (by decide) ?_
    refine at_iload 26 X rfl dX12_lightOf_24 rfl ?_
    refine at_iconst 27 X (by decide) dX12_lightOf_26 rfl ?_
    refine at_icmp_eq 30 50 X dX12_lightOf_27 rfl (by decide) (fun h27 => ?_) (fun h27 => ?_)
    · refine at_iload 52 X rfl dX12_lightOf_50 rfl ?_
      refine at_iconst 53 X (by decide) dX12_lightOf_52 rfl ?_
      refine at_icmp_ne 56 60 X dX12_lightOf_53 rfl (by decide) (fun h53 => ?_) (fun h53 => ?_)
      · refine at_iload_n 61 X rfl rfl dX12_lightOf_60 rfl ?_
        refine at_if_ne 64 68 X dX12_lightOf_61 rfl (by decide) (fun h61 => ?_) (fun h61 => ?_)
        · refine at_iload_n 69 X rfl rfl dX12_lightOf_68 rfl ?_
          refine at_iconst 70 X (by decide) dX12_lightOf_69 rfl ?_
          refine at_icmp_ne 73 85 X dX12_lightOf_70 rfl (by decide) (fun h70 => ?_) (fun h70 => ?_)
          · refine at_iconst 86 X (by decide) dX12_lightOf_85 rfl ?_
            refine at_iret X Rt ?_ (Nat.le_refl _) (Nat.le_refl _) dX12_lightOf_86
            refine ⟨?_, rfl⟩
            first
              | (rw [show lrP P (moonP P d) h = sSw P (xTk Q k) from by unfold lrP; rw [if_pos (show 0 ≤ sunP P h by omega), ← hk3, Int.toNat_natCast]]; done)
              | (rw [show lrP P (moonP P d) h = true from by unfold lrP; rw [if_neg (show ¬ 0 ≤ sunP P h by rcases hsv with q | ⟨k, q1, q2, q3⟩ <;> omega), decide_eq_true (by omega)]]; rfl)
              | (rw [show lrP P (moonP P d) h = false from by unfold lrP; rw [if_neg (show ¬ 0 ≤ sunP P h by rcases hsv with q | ⟨k, q1, q2, q3⟩ <;> omega), decide_eq_false (by omega)]]; rfl)
          · exact absurd h70 (by decide)
        · exact absurd h61 (by decide)
      · refine at_iconst 57 X (by decide) dX12_lightOf_56 rfl ?_
        refine at_goto 86 X dX12_lightOf_57 (by decide) ?_
        refine at_iret X Rt ?_ (Nat.le_refl _) (Nat.le_refl _) dX12_lightOf_86
        refine ⟨?_, rfl⟩
        first
          | (rw [show lrP P (moonP P d) h = sSw P (xTk Q k) from by unfold lrP; rw [if_pos (show 0 ≤ sunP P h by omega), ← hk3, Int.toNat_natCast]]; done)
          | (rw [show lrP P (moonP P d) h = true from by unfold lrP; rw [if_neg (show ¬ 0 ≤ sunP P h by rcases hsv with q | ⟨k, q1, q2, q3⟩ <;> omega), decide_eq_true (by omega)]]; rfl)
          | (rw [show lrP P (moonP P d) h = false from by unfold lrP; rw [if_neg (show ¬ 0 ≤ sunP P h by rcases hsv with q | ⟨k, q1, q2, q3⟩ <;> omega), decide_eq_false (by omega)]]; rfl)
    · refine at_iload_n 31 X rfl rfl dX12_lightOf_30 rfl ?_
      refine at_if_ne 34 38 X dX12_lightOf_31 rfl (by decide) (fun h31 => ?_) (fun h31 => ?_)
      · have hxn := hR_E.2.2.1.1
        obtain ⟨k, hk1, rfl, hk3⟩ := (hsv.resolve_left (fun q => by omega))
        refine at_aload_n 39 X rfl rfl dX12_lightOf_38 rfl ?_
        refine m_getR 42 X f_X12_37 k_125 r_125_16 dX12_lightOf_39 rfl ?_
        refine at_iload 44 X rfl dX12_lightOf_42 rfl ?_
        refine m_aaloadV 45 X k (by omega) k_166 (by decide) (by omega) (rr_166 _ (by omega)) dX12_lightOf_44 rfl ?_
        refine at_iconst 46 X (by decide) dX12_lightOf_45 rfl ?_
        refine at_iload_n 47 X rfl rfl dX12_lightOf_46 rfl ?_
        refine at_isubV 48 X 1 (w32_v (by decide) (by decide) (by decide)) dX12_lightOf_47 rfl ?_
        refine m_ialoadV 49 X 1 (by omega) (if sSw P (xTk Q k) then 1 else 0) (hR_E.2.2.1.2.1 k (by omega)).2.2.2.1 (kr_166 _ (by omega)) (er_166 _ (by omega)) (by omega) dX12_lightOf_48 rfl ?_
        refine at_iret X Rt ?_ (Nat.le_refl _) (Nat.le_refl _) dX12_lightOf_49
        refine ⟨?_, rfl⟩
        first
          | (rw [show lrP P (moonP P d) h = sSw P (xTk Q k) from by unfold lrP; rw [if_pos (show 0 ≤ sunP P h by omega), ← hk3, Int.toNat_natCast]]; done)
          | (rw [show lrP P (moonP P d) h = true from by unfold lrP; rw [if_neg (show ¬ 0 ≤ sunP P h by rcases hsv with q | ⟨k, q1, q2, q3⟩ <;> omega), decide_eq_true (by omega)]]; rfl)
          | (rw [show lrP P (moonP P d) h = false from by unfold lrP; rw [if_neg (show ¬ 0 ≤ sunP P h by rcases hsv with q | ⟨k, q1, q2, q3⟩ <;> omega), decide_eq_false (by omega)]]; rfl)
      · exact absurd h31 (by decide)
