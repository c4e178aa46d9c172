/-- the law without a text -/
def plL : LW := (3, (fun i => if i = 0 then 1 else if i = 1 then 0 else 7), (fun i => if i = 1 then 20 else 0))
def rcode (w : Int) : Int := if w = 0 then 0 else if w < 5 then 1 else w - 3
/-- the law as the reference holds it -/
def RLw (E : Mm) (L : LW) : Prop := (E 125 28 = 0 ∧ L = plL) ∨ (E 125 28 = (L.1 : Int) ∧ ∀ i, i < L.1 → E (255 + i) 0 = rcode (L.2.1 i) ∧ (L.2.1 i = 0 → E (255 + i) 1 = L.2.2 i) ∧ (1 ≤ L.2.1 i → L.2.1 i < 5 → E (255 + i) 1 = L.2.1 i - 1))
def knV (s t h m : Int) (i : Nat) : Int := if i = 0 then s else if i = 1 then t else if i = 2 then h else m
theorem RLw.fr {E E1 : Mm} {L : LW} (h : RLw E L) (hL : L.1 ≤ 150) (h0 : E1 125 28 = E 125 28) (hf : ∀ q, 255 ≤ q → q ≤ 404 → E1 q = E q) : RLw E1 L := by
  rcases h with ⟨a, b⟩ | ⟨a, b⟩
  · exact Or.inl ⟨h0.trans a, b⟩
  · refine Or.inr ⟨h0.trans a, fun i hi => ?_⟩
    rw [hf (255 + i) (by omega) (by omega)]
    exact b i hi
theorem lvl_kn {w v s t h m : Int} (h1 : 1 ≤ w) (h2 : w < 5) : lvl w v s t h m = knV s t h m (w - 1).toNat := by
  unfold lvl knV
  rcases (show w = 1 ∨ w = 2 ∨ w = 3 ∨ w = 4 by omega) with rfl | rfl | rfl | rfl <;> rfl
theorem plL_stk (s t h m : Int) : stk plL s t h m plL.1 0 = w32 (s * 20) := rfl
/-- how far a shade's place lies -/
def kx (s t h m : Nat) : Nat := ((s * 100 + t) * 24 + h) * 2 + m
/-- what is said is so -/
def RKn (E : Mm) (L : LW) (st : Nat) : Prop := E 125 30 = (st : Int) ∧ ∀ s t h m : Nat, s ≤ 11 → t ≤ 99 → h < 24 → m < 2 → E 579 (kx s t h m) ≤ (st : Int) ∧ (E 579 (kx s t h m) = (st : Int) → E 578 (kx s t h m) = borP L s t h m)
theorem kx_inj {s t h m s' t' h' m' : Nat} (h1 : t ≤ 99) (h2 : h < 24) (h3 : m < 2) (h4 : t' ≤ 99) (h5 : h' < 24) (h6 : m' < 2) (e : kx s t h m = kx s' t' h' m') : s = s' ∧ t = t' ∧ h = h' ∧ m = m' := by
  unfold kx at e
  omega
theorem clamp_eq (v : Int) : (if (if 999 < v then 999 else v) < 0 then 0 else (if 999 < v then 999 else v)) = clampB v := by
  unfold clampB
  split <;> split <;> omega
theorem dX12_by_0 : decode cX12_by 0 = .ok (.iload_n 0, 1) := by decide +kernel
theorem dX12_by_1 : decode cX12_by 1 = .ok (.tableswitch 75 2 6 #[35, 39, 43, 47, 69], 35) := by decide +kernel
theorem dX12_by_36 : decode cX12_by 36 = .ok (.iload_n 1, 1) := by decide +kernel
theorem dX12_by_37 : decode cX12_by 37 = .ok (.iload_n 2, 1) := by decide +kernel
theorem dX12_by_38 : decode cX12_by 38 = .ok (.iadd, 1) := by decide +kernel
theorem dX12_by_39 : decode cX12_by 39 = .ok (.ireturn, 1) := by decide +kernel
theorem dX12_by_40 : decode cX12_by 40 = .ok (.iload_n 1, 1) := by decide +kernel
theorem dX12_by_41 : decode cX12_by 41 = .ok (.iload_n 2, 1) := by decide +kernel
theorem dX12_by_42 : decode cX12_by 42 = .ok (.isub, 1) := by decide +kernel
theorem dX12_by_43 : decode cX12_by 43 = .ok (.ireturn, 1) := by decide +kernel
theorem dX12_by_44 : decode cX12_by 44 = .ok (.iload_n 1, 1) := by decide +kernel
theorem dX12_by_45 : decode cX12_by 45 = .ok (.iload_n 2, 1) := by decide +kernel
theorem dX12_by_46 : decode cX12_by 46 = .ok (.imul, 1) := by decide +kernel
theorem dX12_by_47 : decode cX12_by 47 = .ok (.ireturn, 1) := by decide +kernel
theorem dX12_by_48 : decode cX12_by 48 = .ok (.iload_n 2, 1) := by decide +kernel
theorem dX12_by_49 : decode cX12_by 49 = .ok (.ifCond .ne 7, 3) := by decide +kernel
theorem dX12_by_52 : decode cX12_by 52 = .ok (.iconst 0, 1) := by decide +kernel
theorem dX12_by_53 : decode cX12_by 53 = .ok (.goto 16, 3) := by decide +kernel
theorem dX12_by_56 : decode cX12_by 56 = .ok (.iload_n 2, 1) := by decide +kernel
theorem dX12_by_57 : decode cX12_by 57 = .ok (.iconst (-1), 1) := by decide +kernel
theorem dX12_by_58 : decode cX12_by 58 = .ok (.if_icmp .ne 8, 3) := by decide +kernel
theorem dX12_by_61 : decode cX12_by 61 = .ok (.iload_n 1, 1) := by decide +kernel
theorem dX12_by_62 : decode cX12_by 62 = .ok (.ineg, 1) := by decide +kernel
theorem dX12_by_63 : decode cX12_by 63 = .ok (.goto 6, 3) := by decide +kernel
theorem dX12_by_66 : decode cX12_by 66 = .ok (.iload_n 1, 1) := by decide +kernel
theorem dX12_by_67 : decode cX12_by 67 = .ok (.iload_n 2, 1) := by decide +kernel
theorem dX12_by_68 : decode cX12_by 68 = .ok (.idiv, 1) := by decide +kernel
theorem dX12_by_69 : decode cX12_by 69 = .ok (.ireturn, 1) := by decide +kernel
theorem dX12_by_70 : decode cX12_by 70 = .ok (.iload_n 1, 1) := by decide +kernel
theorem dX12_by_71 : decode cX12_by 71 = .ok (.iload_n 2, 1) := by decide +kernel
theorem dX12_by_72 : decode cX12_by 72 = .ok (.invokestatic 301, 3) := by decide +kernel
theorem dX12_by_75 : decode cX12_by 75 = .ok (.ireturn, 1) := by decide +kernel
theorem dX12_by_76 : decode cX12_by 76 = .ok (.iload_n 1, 1) := by decide +kernel
theorem dX12_by_77 : decode cX12_by 77 = .ok (.iload_n 2, 1) := by decide +kernel
theorem dX12_by_78 : decode cX12_by 78 = .ok (.invokestatic 304, 3) := by decide +kernel
theorem dX12_by_81 : decode cX12_by 81 = .ok (.ireturn, 1) := by decide +kernel
theorem ct_X12_by {g : Gw} (hG : GF g) {z : Bool} (E : Mm) (c u v : Int) (hc : 2 ≤ c ∧ c ≤ 7) : CT g yX12_by cX12_by 3 (some .int) 1 21 0 0 K2 z [mI c, mI u, mI v] (ov E) K2 z (fun r D' => r = some (mI (lop (c + 3) u v)) ∧ D' = ov E) := by
  refine CT.mk hG (by decide +kernel) (Nat.le_of_ble_eq_true rfl) (fun κ X Rt _ ok => ?_)
  refine at_iload_n 1 X rfl rfl dX12_by_0 rfl ?_
  rcases (show c = 2 ∨ c = 3 ∨ c = 4 ∨ c = 5 ∨ c = 6 ∨ (c < 2 ∨ 6 < c) by omega) with h1 | h1 | h1 | h1 | h1 | h1
  · refine at_tswIn 36 X dX12_by_1 (by omega) (by rw [h1]; rfl) (by decide) ?_
    refine at_iload_n 37 X rfl rfl dX12_by_36 rfl ?_
    refine at_iload_n 38 X rfl rfl dX12_by_37 rfl ?_
    refine at_iaddV 39 X (w32 (u + v)) rfl dX12_by_38 rfl ?_
    refine at_iret X Rt ?_ (Nat.le_refl _) (Nat.le_refl _) dX12_by_39
    refine ⟨?_, rfl⟩
    unfold lop
    first
      | (rw [if_pos (show c + 3 = 5 by omega)]; done)
      | (rw [if_neg (show ¬ c + 3 = 5 by omega), if_pos (show c + 3 = 6 by omega)]; done)
      | (rw [if_neg (show ¬ c + 3 = 5 by omega), if_neg (show ¬ c + 3 = 6 by omega), if_pos (show c + 3 = 7 by omega)]; done)
      | (rw [if_neg (show ¬ c + 3 = 5 by omega), if_neg (show ¬ c + 3 = 6 by omega), if_neg (show ¬ c + 3 = 7 by omega), if_pos (show c + 3 = 8 by omega)]; first | (rw [if_pos (show v = 0 by omega)]; done) | (rw [if_neg (show ¬ v = 0 by omega)]; first | done | (rw [show v = -1 by omega, Int.tdiv_neg, Int.tdiv_one]; done)))
      | (rw [if_neg (show ¬ c + 3 = 5 by omega), if_neg (show ¬ c + 3 = 6 by omega), if_neg (show ¬ c + 3 = 7 by omega), if_neg (show ¬ c + 3 = 8 by omega), if_pos (show c + 3 = 9 by omega)]; done)
      | (rw [if_neg (show ¬ c + 3 = 5 by omega), if_neg (show ¬ c + 3 = 6 by omega), if_neg (show ¬ c + 3 = 7 by omega), if_neg (show ¬ c + 3 = 8 by omega), if_neg (show ¬ c + 3 = 9 by omega)]; done)
  · refine at_tswIn 40 X dX12_by_1 (by omega) (by rw [h1]; rfl) (by decide) ?_
    refine at_iload_n 41 X rfl rfl dX12_by_40 rfl ?_
    refine at_iload_n 42 X rfl rfl dX12_by_41 rfl ?_
    refine at_isubV 43 X (w32 (u - v)) rfl dX12_by_42 rfl ?_
    refine at_iret X Rt ?_ (Nat.le_refl _) (Nat.le_refl _) dX12_by_43
    refine ⟨?_, rfl⟩
    unfold lop
    first
      | (rw [if_pos (show c + 3 = 5 by omega)]; done)
      | (rw [if_neg (show ¬ c + 3 = 5 by omega), if_pos (show c + 3 = 6 by omega)]; done)
      | (rw [if_neg (show ¬ c + 3 = 5 by omega), if_neg (show ¬ c + 3 = 6 by omega), if_pos (show c + 3 = 7 by omega)]; done)
      | (rw [if_neg (show ¬ c + 3 = 5 by omega), if_neg (show ¬ c + 3 = 6 by omega), if_neg (show ¬ c + 3 = 7 by omega), if_pos (show c + 3 = 8 by omega)]; first | (rw [if_pos (show v = 0 by omega)]; done) | (rw [if_neg (show ¬ v = 0 by omega)]; first | done | (rw [show v = -1 by omega, Int.tdiv_neg, Int.tdiv_one]; done)))
      | (rw [if_neg (show ¬ c + 3 = 5 by omega), if_neg (show ¬ c + 3 = 6 by omega), if_neg (show ¬ c + 3 = 7 by omega), if_neg (show ¬ c + 3 = 8 by omega), if_pos (show c + 3 = 9 by omega)]; done)
      | (rw [if_neg (show ¬ c + 3 = 5 by omega), if_neg (show ¬ c + 3 = 6 by omega), if_neg (show ¬ c + 3 = 7 by omega), if_neg (show ¬ c + 3 = 8 by omega), if_neg (show ¬ c + 3 = 9 by omega)]; done)
  · refine at_tswIn 44 X dX12_by_1 (by omega) (by rw [h1]; rfl) (by decide) ?_
    refine at_iload_n 45 X rfl rfl dX12_by_44 rfl ?_
    refine at_iload_n 46 X rfl rfl dX12_by_45 rfl ?_
    refine at_imulV 47 X (w32 (u * v)) rfl dX12_by_46 rfl ?_
    refine at_iret X Rt ?_ (Nat.le_refl _) (Nat.le_refl _) dX12_by_47
    refine ⟨?_, rfl⟩
    unfold lop
    first
      | (rw [if_pos (show c + 3 = 5 by omega)]; done)
      | (rw [if_neg (show ¬ c + 3 = 5 by omega), if_pos (show c + 3 = 6 by omega)]; done)
      | (rw [if_neg (show ¬ c + 3 = 5 by omega), if_neg (show ¬ c + 3 = 6 by omega), if_pos (show c + 3 = 7 by omega)]; done)
      | (rw [if_neg (show ¬ c + 3 = 5 by omega), if_neg (show ¬ c + 3 = 6 by omega), if_neg (show ¬ c + 3 = 7 by omega), if_pos (show c + 3 = 8 by omega)]; first | (rw [if_pos (show v = 0 by omega)]; done) | (rw [if_neg (show ¬ v = 0 by omega)]; first | done | (rw [show v = -1 by omega, Int.tdiv_neg, Int.tdiv_one]; done)))
      | (rw [if_neg (show ¬ c + 3 = 5 by omega), if_neg (show ¬ c + 3 = 6 by omega), if_neg (show ¬ c + 3 = 7 by omega), if_neg (show ¬ c + 3 = 8 by omega), if_pos (show c + 3 = 9 by omega)]; done)
      | (rw [if_neg (show ¬ c + 3 = 5 by omega), if_neg (show ¬ c + 3 = 6 by omega), if_neg (show ¬ c + 3 = 7 by omega), if_neg (show ¬ c + 3 = 8 by omega), if_neg (show ¬ c + 3 = 9 by omega)]; done)
  · refine at_tswIn 48 X dX12_by_1 (by omega) (by rw [h1]; rfl) (by decide) ?_
    refine at_iload_n 49 X rfl rfl dX12_by_48 rfl ?_
    refine at_if_ne 52 56 X dX12_by_49 rfl (by decide) (fun h49 => ?_) (fun h49 => ?_)
    · refine at_iload_n 57 X rfl rfl dX12_by_56 rfl ?_
      refine at_iconst 58 X (by decide) dX12_by_57 rfl ?_
      refine at_icmp_ne 61 66 X dX12_by_58 rfl (by decide) (fun h58 => ?_) (fun h58 => ?_)
      · refine at_iload_n 67 X rfl rfl dX12_by_66 rfl ?_
        refine at_iload_n 68 X rfl rfl dX12_by_67 rfl ?_
        refine at_idivV 69 X h49 (w32 (u.tdiv v)) rfl dX12_by_68 rfl ?_
        refine at_iret X Rt ?_ (Nat.le_refl _) (Nat.le_refl _) dX12_by_69
        refine ⟨?_, rfl⟩
        unfold lop
        first
          | (rw [if_pos (show c + 3 = 5 by omega)]; done)
          | (rw [if_neg (show ¬ c + 3 = 5 by omega), if_pos (show c + 3 = 6 by omega)]; done)
          | (rw [if_neg (show ¬ c + 3 = 5 by omega), if_neg (show ¬ c + 3 = 6 by omega), if_pos (show c + 3 = 7 by omega)]; done)
          | (rw [if_neg (show ¬ c + 3 = 5 by omega), if_neg (show ¬ c + 3 = 6 by omega), if_neg (show ¬ c + 3 = 7 by omega), if_pos (show c + 3 = 8 by omega)]; first | (rw [if_pos (show v = 0 by omega)]; done) | (rw [if_neg (show ¬ v = 0 by omega)]; first | done | (rw [show v = -1 by omega, Int.tdiv_neg, Int.tdiv_one]; done)))
          | (rw [if_neg (show ¬ c + 3 = 5 by omega), if_neg (show ¬ c + 3 = 6 by omega), if_neg (show ¬ c + 3 = 7 by omega), if_neg (show ¬ c + 3 = 8 by omega), if_pos (show c + 3 = 9 by omega)]; done)
          | (rw [if_neg (show ¬ c + 3 = 5 by omega), if_neg (show ¬ c + 3 = 6 by omega), if_neg (show ¬ c + 3 = 7 by omega), if_neg (show ¬ c + 3 = 8 by omega), if_neg (show ¬ c + 3 = 9 by omega)]; done)
      · refine at_iload_n 62 X rfl rfl dX12_by_61 rfl ?_
        refine at_inegV 63 X (w32 (-u)) rfl dX12_by_62 rfl ?_
        refine at_goto 69 X dX12_by_63 (by decide) ?_
        refine at_iret X Rt ?_ (Nat.le_refl _) (Nat.le_refl _) dX12_by_69
        refine ⟨?_, rfl⟩
        unfold lop
        first
          | (rw [if_pos (show c + 3 = 5 by omega)]; done)
          | (rw [if_neg (show ¬ c + 3 = 5 by omega), if_pos (show c + 3 = 6 by omega)]; done)
          | (rw [if_neg (show ¬ c + 3 = 5 by omega), if_neg (show ¬ c + 3 = 6 by omega), if_pos (show c + 3 = 7 by omega)]; done)
          | (rw [if_neg (show ¬ c + 3 = 5 by omega), if_neg (show ¬ c + 3 = 6 by omega), if_neg (show ¬ c + 3 = 7 by omega), if_pos (show c + 3 = 8 by omega)]; first | (rw [if_pos (show v = 0 by omega)]; done) | (rw [if_neg (show ¬ v = 0 by omega)]; first | done | (rw [show v = -1 by omega, Int.tdiv_neg, Int.tdiv_one]; done)))
          | (rw [if_neg (show ¬ c + 3 = 5 by omega), if_neg (show ¬ c + 3 = 6 by omega), if_neg (show ¬ c + 3 = 7 by omega), if_neg (show ¬ c + 3 = 8 by omega), if_pos (show c + 3 = 9 by omega)]; done)
          | (rw [if_neg (show ¬ c + 3 = 5 by omega), if_neg (show ¬ c + 3 = 6 by omega), if_neg (show ¬ c + 3 = 7 by omega), if_neg (show ¬ c + 3 = 8 by omega), if_neg (show ¬ c + 3 = 9 by omega)]; done)
    · refine at_iconst 53 X (by decide) dX12_by_52 rfl ?_
      refine at_goto 69 X dX12_by_53 (by decide) ?_
      refine at_iret X Rt ?_ (Nat.le_refl _) (Nat.le_refl _) dX12_by_69
      refine ⟨?_, rfl⟩
      unfold lop
      first
        | (rw [if_pos (show c + 3 = 5 by omega)]; done)
        | (rw [if_neg (show ¬ c + 3 = 5 by omega), if_pos (show c + 3 = 6 by omega)]; done)
        | (rw [if_neg (show ¬ c + 3 = 5 by omega), if_neg (show ¬ c + 3 = 6 by omega), if_pos (show c + 3 = 7 by omega)]; done)
        | (rw [if_neg (show ¬ c + 3 = 5 by omega), if_neg (show ¬ c + 3 = 6 by omega), if_neg (show ¬ c + 3 = 7 by omega), if_pos (show c + 3 = 8 by omega)]; first | (rw [if_pos (show v = 0 by omega)]; done) | (rw [if_neg (show ¬ v = 0 by omega)]; first | done | (rw [show v = -1 by omega, Int.tdiv_neg, Int.tdiv_one]; done)))
        | (rw [if_neg (show ¬ c + 3 = 5 by omega), if_neg (show ¬ c + 3 = 6 by omega), if_neg (show ¬ c + 3 = 7 by omega), if_neg (show ¬ c + 3 = 8 by omega), if_pos (show c + 3 = 9 by omega)]; done)
        | (rw [if_neg (show ¬ c + 3 = 5 by omega), if_neg (show ¬ c + 3 = 6 by omega), if_neg (show ¬ c + 3 = 7 by omega), if_neg (show ¬ c + 3 = 8 by omega), if_neg (show ¬ c + 3 = 9 by omega)]; done)
  · refine at_tswIn 70 X dX12_by_1 (by omega) (by rw [h1]; rfl) (by decide) ?_
    refine at_iload_n 71 X rfl rfl dX12_by_70 rfl ?_
    refine at_iload_n 72 X rfl rfl dX12_by_71 rfl ?_
    refine at_callS 75 X (ct_X12_less hG E u v) mo_X12_less w_2088 so_X12_less rfl rfl (crm Rt (by decide)) (Nat.le_of_ble_eq_true rfl) dX12_by_72 rfl ?_
    rintro _ _ ⟨rfl, rfl⟩
    refine at_iret X Rt ?_ (Nat.le_refl _) (Nat.le_refl _) dX12_by_75
    refine ⟨?_, rfl⟩
    unfold lop
    first
      | (rw [if_pos (show c + 3 = 5 by omega)]; done)
      | (rw [if_neg (show ¬ c + 3 = 5 by omega), if_pos (show c + 3 = 6 by omega)]; done)
      | (rw [if_neg (show ¬ c + 3 = 5 by omega), if_neg (show ¬ c + 3 = 6 by omega), if_pos (show c + 3 = 7 by omega)]; done)
      | (rw [if_neg (show ¬ c + 3 = 5 by omega), if_neg (show ¬ c + 3 = 6 by omega), if_neg (show ¬ c + 3 = 7 by omega), if_pos (show c + 3 = 8 by omega)]; first | (rw [if_pos (show v = 0 by omega)]; done) | (rw [if_neg (show ¬ v = 0 by omega)]; first | done | (rw [show v = -1 by omega, Int.tdiv_neg, Int.tdiv_one]; done)))
      | (rw [if_neg (show ¬ c + 3 = 5 by omega), if_neg (show ¬ c + 3 = 6 by omega), if_neg (show ¬ c + 3 = 7 by omega), if_neg (show ¬ c + 3 = 8 by omega), if_pos (show c + 3 = 9 by omega)]; done)
      | (rw [if_neg (show ¬ c + 3 = 5 by omega), if_neg (show ¬ c + 3 = 6 by omega), if_neg (show ¬ c + 3 = 7 by omega), if_neg (show ¬ c + 3 = 8 by omega), if_neg (show ¬ c + 3 = 9 by omega)]; done)
  · refine at_tswOut 76 X dX12_by_1 h1 (by decide) ?_
    refine at_iload_n 77 X rfl rfl dX12_by_76 rfl ?_
    refine at_iload_n 78 X rfl rfl dX12_by_77 rfl ?_
    refine at_callS 81 X (ct_X12_more hG E u v) mo_X12_more w_2091 so_X12_more rfl rfl (crm Rt (by decide)) (Nat.le_of_ble_eq_true rfl) dX12_by_78 rfl ?_
    rintro _ _ ⟨rfl, rfl⟩
    refine at_iret X Rt ?_ (Nat.le_refl _) (Nat.le_refl _) dX12_by_81
    refine ⟨?_, rfl⟩
    unfold lop
    first
      | (rw [if_pos (show c + 3 = 5 by omega)]; done)
      | (rw [if_neg (show ¬ c + 3 = 5 by omega), if_pos (show c + 3 = 6 by omega)]; done)
      | (rw [if_neg (show ¬ c + 3 = 5 by omega), if_neg (show ¬ c + 3 = 6 by omega), if_pos (show c + 3 = 7 by omega)]; done)
      | (rw [if_neg (show ¬ c + 3 = 5 by omega), if_neg (show ¬ c + 3 = 6 by omega), if_neg (show ¬ c + 3 = 7 by omega), if_pos (show c + 3 = 8 by omega)]; first | (rw [if_pos (show v = 0 by omega)]; done) | (rw [if_neg (show ¬ v = 0 by omega)]; first | done | (rw [show v = -1 by omega, Int.tdiv_neg, Int.tdiv_one]; done)))
      | (rw [if_neg (show ¬ c + 3 = 5 by omega), if_neg (show ¬ c + 3 = 6 by omega), if_neg (show ¬ c + 3 = 7 by omega), if_neg (show ¬ c + 3 = 8 by omega), if_pos (show c + 3 = 9 by omega)]; done)
      | (rw [if_neg (show ¬ c + 3 = 5 by omega), if_neg (show ¬ c + 3 = 6 by omega), if_neg (show ¬ c + 3 = 7 by omega), if_neg (show ¬ c + 3 = 8 by omega), if_neg (show ¬ c + 3 = 9 by omega)]; done)
theorem rst_op {E1 : Mm} {L : LW} {s t h m v : Int} {i : Nat} (h5 : 5 ≤ L.2.1 i) (h2 : 2 ≤ hgt L i) (hst : ∀ j, j < hgt L i → E1 576 j = stk L s t h m i j) (hv : v = lop (L.2.1 i) (stk L s t h m i (hgt L i - 1 - 1)) (stk L s t h m i (hgt L i - 1))) : ∀ j, j < hgt L (i + 1) → wr E1 576 (hgt L i - 1 - 1) v 576 j = stk L s t h m (i + 1) j := by
  intro j hj
  rw [hgt_s, if_pos h5] at hj
  rw [stk_s, if_pos h5]
  by_cases c : j = hgt L i - 2
  · subst c
    rw [updf_s, show hgt L i - 1 - 1 = hgt L i - 2 by omega, wr_s, hv, show hgt L i - 1 - 1 = hgt L i - 2 by omega]
  · rw [updf_o c, wr_o (by omega)]
    exact hst j (by omega)
theorem rst_val {E1 : Mm} {L : LW} {s t h m v : Int} {i : Nat} (h5 : L.2.1 i < 5) (hst : ∀ j, j < hgt L i → E1 576 j = stk L s t h m i j) (hv : v = lvl (L.2.1 i) (L.2.2 i) s t h m) : ∀ j, j < hgt L (i + 1) → wr E1 576 (hgt L i) v 576 j = stk L s t h m (i + 1) j := by
  intro j hj
  rw [hgt_s, if_neg (by omega)] at hj
  rw [stk_s, if_neg (by omega)]
  by_cases c : j = hgt L i
  · subst c
    rw [updf_s, wr_s, hv]
  · rw [updf_o c, wr_o (by omega)]
    exact hst j (by omega)
theorem rcode_0 {w : Int} (h : 0 ≤ w) : rcode w = 0 ↔ w = 0 := by unfold rcode; split <;> (try split) <;> omega
theorem rcode_2 {w : Int} (h : 0 ≤ w) : rcode w < 2 ↔ w < 5 := by unfold rcode; split <;> (try split) <;> omega
theorem dX12_byLaw_0 : decode cX12_byLaw 0 = .ok (.aload_n 0, 1) := by decide +kernel
theorem dX12_byLaw_1 : decode cX12_byLaw 1 = .ok (.getfield 258, 3) := by decide +kernel
theorem dX12_byLaw_4 : decode cX12_byLaw 4 = .ok (.ifCond .ne 13, 3) := by decide +kernel
theorem dX12_byLaw_7 : decode cX12_byLaw 7 = .ok (.aload_n 0, 1) := by decide +kernel
theorem dX12_byLaw_8 : decode cX12_byLaw 8 = .ok (.getfield 82, 3) := by decide +kernel
theorem dX12_byLaw_11 : decode cX12_byLaw 11 = .ok (.iconst 0, 1) := by decide +kernel
theorem dX12_byLaw_12 : decode cX12_byLaw 12 = .ok (.iaload, 1) := by decide +kernel
theorem dX12_byLaw_13 : decode cX12_byLaw 13 = .ok (.bipush 20, 2) := by decide +kernel
theorem dX12_byLaw_15 : decode cX12_byLaw 15 = .ok (.imul, 1) := by decide +kernel
theorem dX12_byLaw_16 : decode cX12_byLaw 16 = .ok (.ireturn, 1) := by decide +kernel
theorem dX12_byLaw_17 : decode cX12_byLaw 17 = .ok (.iconst 0, 1) := by decide +kernel
theorem dX12_byLaw_18 : decode cX12_byLaw 18 = .ok (.istore_n 1, 1) := by decide +kernel
theorem dX12_byLaw_19 : decode cX12_byLaw 19 = .ok (.iconst 0, 1) := by decide +kernel
theorem dX12_byLaw_20 : decode cX12_byLaw 20 = .ok (.istore_n 2, 1) := by decide +kernel
theorem dX12_byLaw_21 : decode cX12_byLaw 21 = .ok (.iload_n 2, 1) := by decide +kernel
theorem dX12_byLaw_22 : decode cX12_byLaw 22 = .ok (.aload_n 0, 1) := by decide +kernel
theorem dX12_byLaw_23 : decode cX12_byLaw 23 = .ok (.getfield 258, 3) := by decide +kernel
theorem dX12_byLaw_26 : decode cX12_byLaw 26 = .ok (.if_icmp .ge 104, 3) := by decide +kernel
theorem dX12_byLaw_29 : decode cX12_byLaw 29 = .ok (.aload_n 0, 1) := by decide +kernel
theorem dX12_byLaw_30 : decode cX12_byLaw 30 = .ok (.getfield 73, 3) := by decide +kernel
theorem dX12_byLaw_33 : decode cX12_byLaw 33 = .ok (.iload_n 2, 1) := by decide +kernel
theorem dX12_byLaw_34 : decode cX12_byLaw 34 = .ok (.aaload, 1) := by decide +kernel
theorem dX12_byLaw_35 : decode cX12_byLaw 35 = .ok (.iconst 0, 1) := by decide +kernel
theorem dX12_byLaw_36 : decode cX12_byLaw 36 = .ok (.iaload, 1) := by decide +kernel
theorem dX12_byLaw_37 : decode cX12_byLaw 37 = .ok (.iconst 2, 1) := by decide +kernel
theorem dX12_byLaw_38 : decode cX12_byLaw 38 = .ok (.if_icmp .ge 50, 3) := by decide +kernel
theorem dX12_byLaw_41 : decode cX12_byLaw 41 = .ok (.aload_n 0, 1) := by decide +kernel
theorem dX12_byLaw_42 : decode cX12_byLaw 42 = .ok (.getfield 79, 3) := by decide +kernel
theorem dX12_byLaw_45 : decode cX12_byLaw 45 = .ok (.iload_n 1, 1) := by decide +kernel
theorem dX12_byLaw_46 : decode cX12_byLaw 46 = .ok (.aload_n 0, 1) := by decide +kernel
theorem dX12_byLaw_47 : decode cX12_byLaw 47 = .ok (.getfield 73, 3) := by decide +kernel
theorem dX12_byLaw_50 : decode cX12_byLaw 50 = .ok (.iload_n 2, 1) := by decide +kernel
theorem dX12_byLaw_51 : decode cX12_byLaw 51 = .ok (.aaload, 1) := by decide +kernel
theorem dX12_byLaw_52 : decode cX12_byLaw 52 = .ok (.iconst 0, 1) := by decide +kernel
theorem dX12_byLaw_53 : decode cX12_byLaw 53 = .ok (.iaload, 1) := by decide +kernel
theorem dX12_byLaw_54 : decode cX12_byLaw 54 = .ok (.ifCond .ne 14, 3) := by decide +kernel
theorem dX12_byLaw_57 : decode cX12_byLaw 57 = .ok (.aload_n 0, 1) := by decide +kernel
theorem dX12_byLaw_58 : decode cX12_byLaw 58 = .ok (.getfield 73, 3) := by decide +kernel
theorem dX12_byLaw_61 : decode cX12_byLaw 61 = .ok (.iload_n 2, 1) := by decide +kernel
theorem dX12_byLaw_62 : decode cX12_byLaw 62 = .ok (.aaload, 1) := by decide +kernel
theorem dX12_byLaw_63 : decode cX12_byLaw 63 = .ok (.iconst 1, 1) := by decide +kernel
theorem dX12_byLaw_64 : decode cX12_byLaw 64 = .ok (.iaload, 1) := by decide +kernel
theorem dX12_byLaw_65 : decode cX12_byLaw 65 = .ok (.goto 16, 3) := by decide +kernel
theorem dX12_byLaw_68 : decode cX12_byLaw 68 = .ok (.aload_n 0, 1) := by decide +kernel
theorem dX12_byLaw_69 : decode cX12_byLaw 69 = .ok (.getfield 82, 3) := by decide +kernel
theorem dX12_byLaw_72 : decode cX12_byLaw 72 = .ok (.aload_n 0, 1) := by decide +kernel
theorem dX12_byLaw_73 : decode cX12_byLaw 73 = .ok (.getfield 73, 3) := by decide +kernel
theorem dX12_byLaw_76 : decode cX12_byLaw 76 = .ok (.iload_n 2, 1) := by decide +kernel
theorem dX12_byLaw_77 : decode cX12_byLaw 77 = .ok (.aaload, 1) := by decide +kernel
theorem dX12_byLaw_78 : decode cX12_byLaw 78 = .ok (.iconst 1, 1) := by decide +kernel
theorem dX12_byLaw_79 : decode cX12_byLaw 79 = .ok (.iaload, 1) := by decide +kernel
theorem dX12_byLaw_80 : decode cX12_byLaw 80 = .ok (.iaload, 1) := by decide +kernel
theorem dX12_byLaw_81 : decode cX12_byLaw 81 = .ok (.iastore, 1) := by decide +kernel
theorem dX12_byLaw_82 : decode cX12_byLaw 82 = .ok (.iinc 1 1, 3) := by decide +kernel
theorem dX12_byLaw_85 : decode cX12_byLaw 85 = .ok (.goto 39, 3) := by decide +kernel
theorem dX12_byLaw_88 : decode cX12_byLaw 88 = .ok (.iinc 1 (-1), 3) := by decide +kernel
theorem dX12_byLaw_91 : decode cX12_byLaw 91 = .ok (.aload_n 0, 1) := by decide +kernel
theorem dX12_byLaw_92 : decode cX12_byLaw 92 = .ok (.getfield 79, 3) := by decide +kernel
theorem dX12_byLaw_95 : decode cX12_byLaw 95 = .ok (.iload_n 1, 1) := by decide +kernel
theorem dX12_byLaw_96 : decode cX12_byLaw 96 = .ok (.iconst 1, 1) := by decide +kernel
theorem dX12_byLaw_97 : decode cX12_byLaw 97 = .ok (.isub, 1) := by decide +kernel
theorem dX12_byLaw_98 : decode cX12_byLaw 98 = .ok (.aload_n 0, 1) := by decide +kernel
theorem dX12_byLaw_99 : decode cX12_byLaw 99 = .ok (.getfield 73, 3) := by decide +kernel
theorem dX12_byLaw_102 : decode cX12_byLaw 102 = .ok (.iload_n 2, 1) := by decide +kernel
theorem dX12_byLaw_103 : decode cX12_byLaw 103 = .ok (.aaload, 1) := by decide +kernel
theorem dX12_byLaw_104 : decode cX12_byLaw 104 = .ok (.iconst 0, 1) := by decide +kernel
theorem dX12_byLaw_105 : decode cX12_byLaw 105 = .ok (.iaload, 1) := by decide +kernel
theorem dX12_byLaw_106 : decode cX12_byLaw 106 = .ok (.aload_n 0, 1) := by decide +kernel
theorem dX12_byLaw_107 : decode cX12_byLaw 107 = .ok (.getfield 79, 3) := by decide +kernel
theorem dX12_byLaw_110 : decode cX12_byLaw 110 = .ok (.iload_n 1, 1) := by decide +kernel
theorem dX12_byLaw_111 : decode cX12_byLaw 111 = .ok (.iconst 1, 1) := by decide +kernel
theorem dX12_byLaw_112 : decode cX12_byLaw 112 = .ok (.isub, 1) := by decide +kernel
theorem dX12_byLaw_113 : decode cX12_byLaw 113 = .ok (.iaload, 1) := by decide +kernel
theorem dX12_byLaw_114 : decode cX12_byLaw 114 = .ok (.aload_n 0, 1) := by decide +kernel
theorem dX12_byLaw_115 : decode cX12_byLaw 115 = .ok (.getfield 79, 3) := by decide +kernel
theorem dX12_byLaw_118 : decode cX12_byLaw 118 = .ok (.iload_n 1, 1) := by decide +kernel
theorem dX12_byLaw_119 : decode cX12_byLaw 119 = .ok (.iaload, 1) := by decide +kernel
theorem dX12_byLaw_120 : decode cX12_byLaw 120 = .ok (.invokestatic 307, 3) := by decide +kernel
theorem dX12_byLaw_123 : decode cX12_byLaw 123 = .ok (.iastore, 1) := by decide +kernel
theorem dX12_byLaw_124 : decode cX12_byLaw 124 = .ok (.iinc 2 1, 3) := by decide +kernel
theorem dX12_byLaw_127 : decode cX12_byLaw 127 = .ok (.goto (-106), 3) := by decide +kernel
theorem dX12_byLaw_130 : decode cX12_byLaw 130 = .ok (.aload_n 0, 1) := by decide +kernel
theorem dX12_byLaw_131 : decode cX12_byLaw 131 = .ok (.getfield 79, 3) := by decide +kernel
theorem dX12_byLaw_134 : decode cX12_byLaw 134 = .ok (.iconst 0, 1) := by decide +kernel
theorem dX12_byLaw_135 : decode cX12_byLaw 135 = .ok (.iaload, 1) := by decide +kernel
theorem dX12_byLaw_136 : decode cX12_byLaw 136 = .ok (.ireturn, 1) := by decide +kernel
theorem ct_X12_byLaw {g : Gw} (hG : GF g) {z : Bool} (E : Mm) (L : LW) (hR_L : RLw E L) (hw : WL L) (s t h m : Int) (hkn_E : ∀ i, i < 4 → E 577 i = knV s t h m i) : CT g yX12_byLaw cX12_byLaw 3 (some .int) 2 43 0 0 K2 z [mR 125] (ov E) K2 z (fun r D' => r = some (mI (stk L s t h m L.1 0)) ∧ ∃ E1, D' = ov E1 ∧ ∀ q, q ≠ 576 → E1 q = E q) := by
  refine CT.mk hG (by decide +kernel) (Nat.le_of_ble_eq_true rfl) (fun κ X Rt _ ok => ?_)
  refine at_aload_n 1 X rfl rfl dX12_byLaw_0 rfl ?_
  refine m_getIV 4 X (E 125 28) rfl f_X12_258 k_125 rn_125_28 dX12_byLaw_1 rfl ?_
  refine at_if_ne 7 17 X dX12_byLaw_4 rfl (by decide) (fun h4 => ?_) (fun h4 => ?_)
  · have hE := hR_L.resolve_left (fun q => h4 q.1)
    have hw2 := hw.2.1
    refine at_iconst 18 X (by decide) dX12_byLaw_17 rfl ?_
    refine at_istore_n 19 X rfl dX12_byLaw_18 rfl (by decide) ?_
    refine at_iconst 20 X (by decide) dX12_byLaw_19 rfl ?_
    refine at_istore_n 21 X rfl dX12_byLaw_20 rfl (by decide) ?_
    have J21 : ∀ (f21 : Nat) (F : Mm) (k : Nat) (n : Nat), 150 - k < f21 → (k ≤ L.1) → (n = hgt L k) → ((∀ q, q ≠ 576 → F q = E q)) → ((∀ j, j < hgt L k → F 576 j = stk L s t h m k j)) → AT g κ K2 z 0 0 21 [(0, mR 125), (1, mI ((n : Nat) : Int)), (2, mI ((k : Nat) : Int))] [] (ov F) := by
      intro f21
      induction f21 with
      | zero => intro F k n hf21; omega
      | succ f21 ih21 =>
      intro F k n hf21 hk hn hf hst
      refine at_iload_n 22 X rfl rfl dX12_byLaw_21 rfl ?_
      refine at_aload_n 23 X rfl rfl dX12_byLaw_22 rfl ?_
      have hkn_F : ∀ i, i < 4 → F 577 i = knV s t h m i := by rw [hf 577 (by decide)]; exact hkn_E
      have hll : F 125 28 = (L.1 : Int) ∧ ∀ i, i < L.1 → F (255 + i) 0 = rcode (L.2.1 i) ∧ (L.2.1 i = 0 → F (255 + i) 1 = L.2.2 i) ∧ (1 ≤ L.2.1 i → L.2.1 i < 5 → F (255 + i) 1 = L.2.1 i - 1) := ⟨by rw [hf 125 (by decide)]; exact hE.1, fun i hi => by rw [hf (255 + i) (by omega)]; exact hE.2 i hi⟩
      refine m_getIV 26 X ((L.1 : Nat) : Int) hll.1 f_X12_258 k_125 rn_125_28 dX12_byLaw_23 rfl ?_
      refine at_icmp_ge 29 130 X dX12_byLaw_26 rfl (by decide) (fun h26 => ?_) (fun h26 => ?_)
      · have hiL : hgt L k = hgt L L.1 := by rw [show L.1 = k by omega]
        have hlast := hw.2.2.2
        refine at_aload_n 131 X rfl rfl dX12_byLaw_130 rfl ?_
        refine m_getR 134 X f_X12_79 k_125 r_125_33 dX12_byLaw_131 rfl ?_
        refine at_iconst 135 X (by decide) dX12_byLaw_134 rfl ?_
        refine m_ialoadV 136 X 0 (by omega) (stk L s t h m k 0) (hst 0 (by omega)) k_576 e_576 (by omega) dX12_byLaw_135 rfl ?_
        refine at_iret X Rt ?_ (Nat.le_refl _) (Nat.le_refl _) dX12_byLaw_136
        exact ⟨by rw [show L.1 = k by omega], F, rfl, hf⟩
      · have := hgt_le L k
        have hk3 := hw.2.2.1 k (by omega)
        subst hn
        refine at_aload_n 30 X rfl rfl dX12_byLaw_29 rfl ?_
        refine m_getR 33 X f_X12_73 k_125 r_125_31 dX12_byLaw_30 rfl ?_
        refine at_iload_n 34 X rfl rfl dX12_byLaw_33 rfl ?_
        refine m_aaloadV 35 X k (by omega) k_254 (by decide) (by omega) (rr_254 _ (by omega)) dX12_byLaw_34 rfl ?_
        refine at_iconst 36 X (by decide) dX12_byLaw_35 rfl ?_
        refine m_ialoadV 37 X 0 (by omega) (rcode (L.2.1 k)) (hll.2 k (by omega)).1 (kr_254 _ (by omega)) (er_254 _ (by omega)) (by omega) dX12_byLaw_36 rfl ?_
        refine at_iconst 38 X (by decide) dX12_byLaw_37 rfl ?_
        refine at_icmp_ge 41 88 X dX12_byLaw_38 rfl (by decide) (fun h38 => ?_) (fun h38 => ?_)
        · have h38 : 5 ≤ L.2.1 k := by have := mt (rcode_2 hk3.1.1).mpr (show ¬ rcode (L.2.1 k) < 2 by omega); omega
          refine at_iincV 91 X ((hgt L k - 1 : Nat) : Int) (w32_v (by omega) (by omega) (by omega)) rfl dX12_byLaw_88 rfl (by decide) ?_
          refine at_aload_n 92 X rfl rfl dX12_byLaw_91 rfl ?_
          refine m_getR 95 X f_X12_79 k_125 r_125_33 dX12_byLaw_92 rfl ?_
          refine at_iload_n 96 X rfl rfl dX12_byLaw_95 rfl ?_
          refine at_iconst 97 X (by decide) dX12_byLaw_96 rfl ?_
          refine at_isubV 98 X ((hgt L k - 1 - 1 : Nat) : Int) (w32_v (by omega) (by omega) (by omega)) dX12_byLaw_97 rfl ?_
          refine at_aload_n 99 X rfl rfl dX12_byLaw_98 rfl ?_
          refine m_getR 102 X f_X12_73 k_125 r_125_31 dX12_byLaw_99 rfl ?_
          refine at_iload_n 103 X rfl rfl dX12_byLaw_102 rfl ?_
          refine m_aaloadV 104 X k (by omega) k_254 (by decide) (by omega) (rr_254 _ (by omega)) dX12_byLaw_103 rfl ?_
          refine at_iconst 105 X (by decide) dX12_byLaw_104 rfl ?_
          refine m_ialoadV 106 X 0 (by omega) (rcode (L.2.1 k)) (hll.2 k (by omega)).1 (kr_254 _ (by omega)) (er_254 _ (by omega)) (by omega) dX12_byLaw_105 rfl ?_
          refine at_aload_n 107 X rfl rfl dX12_byLaw_106 rfl ?_
          refine m_getR 110 X f_X12_79 k_125 r_125_33 dX12_byLaw_107 rfl ?_
          refine at_iload_n 111 X rfl rfl dX12_byLaw_110 rfl ?_
          refine at_iconst 112 X (by decide) dX12_byLaw_111 rfl ?_
          refine at_isubV 113 X ((hgt L k - 1 - 1 : Nat) : Int) (w32_v (by omega) (by omega) (by omega)) dX12_byLaw_112 rfl ?_
          refine m_ialoadV 114 X (hgt L k - 1 - 1) (by omega) (stk L s t h m k (hgt L k - 1 - 1)) (hst (hgt L k - 1 - 1) (by omega)) k_576 e_576 (by omega) dX12_byLaw_113 rfl ?_
          refine at_aload_n 115 X rfl rfl dX12_byLaw_114 rfl ?_
          refine m_getR 118 X f_X12_79 k_125 r_125_33 dX12_byLaw_115 rfl ?_
          refine at_iload_n 119 X rfl rfl dX12_byLaw_118 rfl ?_
          refine m_ialoadV 120 X (hgt L k - 1) (by omega) (stk L s t h m k (hgt L k - 1)) (hst (hgt L k - 1) (by omega)) k_576 e_576 (by omega) dX12_byLaw_119 rfl ?_
          refine at_callS 123 X (ct_X12_by hG F (rcode (L.2.1 k)) (stk L s t h m k (hgt L k - 1 - 1)) (stk L s t h m k (hgt L k - 1)) (by unfold rcode; rw [if_neg (by omega), if_neg (by omega)]; omega)) mo_X12_by w_2085 so_X12_by rfl rfl (crm Rt (by decide)) (Nat.le_of_ble_eq_true rfl) dX12_byLaw_120 rfl ?_
          rintro _ _ ⟨rfl, rfl⟩
          refine m_iastoreV 124 X (hgt L k - 1 - 1) (by omega) k_576 e_576 (by omega) dX12_byLaw_123 rfl ?_
          refine at_iincV 127 X ((k + 1 : Nat) : Int) (w32_v (by omega) (by omega) (by omega)) rfl dX12_byLaw_124 rfl (by decide) ?_
          refine at_goto 21 X dX12_byLaw_127 (by decide) ?_
          exact at_sub _ (by exact ⟨rfl, rfl, rfl, trivial⟩) (ih21 (wr F 576 (hgt L k - 1 - 1) (lop (rcode (L.2.1 k) + 3) (stk L s t h m k (hgt L k - 1 - 1)) (stk L s t h m k (hgt L k - 1)))) (k + 1) (hgt L k - 1) (by first | omega | (simp only [] at *; omega)) (by first | omega | assumption) (by first | rw [hgt_op (by omega)] | rw [hgt_val (by omega)]) (fun q hq => by rw [wr_row hq]; exact hf q hq) (by first | exact rst_op (by omega) (by omega) hst (by unfold rcode; rw [if_neg (by omega), if_neg (by omega), show L.2.1 k - 3 + 3 = L.2.1 k by omega]) | exact rst_val (by omega) hst hval))
        · have h38 := (rcode_2 hk3.1.1).mp h38
          refine at_aload_n 42 X rfl rfl dX12_byLaw_41 rfl ?_
          refine m_getR 45 X f_X12_79 k_125 r_125_33 dX12_byLaw_42 rfl ?_
          refine at_iload_n 46 X rfl rfl dX12_byLaw_45 rfl ?_
          refine at_aload_n 47 X rfl rfl dX12_byLaw_46 rfl ?_
          refine m_getR 50 X f_X12_73 k_125 r_125_31 dX12_byLaw_47 rfl ?_
          refine at_iload_n 51 X rfl rfl dX12_byLaw_50 rfl ?_
          refine m_aaloadV 52 X k (by omega) k_254 (by decide) (by omega) (rr_254 _ (by omega)) dX12_byLaw_51 rfl ?_
          refine at_iconst 53 X (by decide) dX12_byLaw_52 rfl ?_
          refine m_ialoadV 54 X 0 (by omega) (rcode (L.2.1 k)) (hll.2 k (by omega)).1 (kr_254 _ (by omega)) (er_254 _ (by omega)) (by omega) dX12_byLaw_53 rfl ?_
          refine at_if_ne 57 68 X dX12_byLaw_54 rfl (by decide) (fun h54 => ?_) (fun h54 => ?_)
          · have h54 : ¬ L.2.1 k = 0 := mt (rcode_0 hk3.1.1).mpr h54
            have hid := (hll.2 k (by omega)).2.2 (by omega) h38
            have hval : knV s t h m (L.2.1 k - 1).toNat = lvl (L.2.1 k) (L.2.2 k) s t h m := (lvl_kn (by omega) h38).symm
            refine at_aload_n 69 X rfl rfl dX12_byLaw_68 rfl ?_
            refine m_getR 72 X f_X12_82 k_125 r_125_34 dX12_byLaw_69 rfl ?_
            refine at_aload_n 73 X rfl rfl dX12_byLaw_72 rfl ?_
            refine m_getR 76 X f_X12_73 k_125 r_125_31 dX12_byLaw_73 rfl ?_
            refine at_iload_n 77 X rfl rfl dX12_byLaw_76 rfl ?_
            refine m_aaloadV 78 X k (by omega) k_254 (by decide) (by omega) (rr_254 _ (by omega)) dX12_byLaw_77 rfl ?_
            refine at_iconst 79 X (by decide) dX12_byLaw_78 rfl ?_
            refine m_ialoadV 80 X 1 (by omega) (F (255 + k) 1) rfl (kr_254 _ (by omega)) (er_254 _ (by omega)) (by omega) dX12_byLaw_79 rfl ?_
            refine m_ialoadV 81 X ((L.2.1 k - 1).toNat) (by omega) (knV s t h m ((L.2.1 k - 1).toNat)) (hkn_F ((L.2.1 k - 1).toNat) (by omega)) k_577 e_577 (by omega) dX12_byLaw_80 rfl ?_
            refine m_iastoreV 82 X (hgt L k) (by omega) k_576 e_576 (by omega) dX12_byLaw_81 rfl ?_
            refine at_iincV 85 X ((hgt L k + 1 : Nat) : Int) (w32_v (by omega) (by omega) (by omega)) rfl dX12_byLaw_82 rfl (by decide) ?_
            refine at_goto 124 X dX12_byLaw_85 (by decide) ?_
            refine at_iincV 127 X ((k + 1 : Nat) : Int) (w32_v (by omega) (by omega) (by omega)) rfl dX12_byLaw_124 rfl (by decide) ?_
            refine at_goto 21 X dX12_byLaw_127 (by decide) ?_
            exact at_sub _ (by exact ⟨rfl, rfl, rfl, trivial⟩) (ih21 (wr F 576 (hgt L k) (knV s t h m ((L.2.1 k - 1).toNat))) (k + 1) (hgt L k + 1) (by first | omega | (simp only [] at *; omega)) (by first | omega | assumption) (by first | rw [hgt_op (by omega)] | rw [hgt_val (by omega)]) (fun q hq => by rw [wr_row hq]; exact hf q hq) (by first | exact rst_op (by omega) (by omega) hst (by unfold rcode; rw [if_neg (by omega), if_neg (by omega), show L.2.1 k - 3 + 3 = L.2.1 k by omega]) | exact rst_val (by omega) hst hval))
          · have h54 := (rcode_0 hk3.1.1).mp h54
            have hval : F (255 + k) 1 = lvl (L.2.1 k) (L.2.2 k) s t h m := by rw [(hll.2 k (by omega)).2.1 h54, h54]; rfl
            refine at_aload_n 58 X rfl rfl dX12_byLaw_57 rfl ?_
            refine m_getR 61 X f_X12_73 k_125 r_125_31 dX12_byLaw_58 rfl ?_
            refine at_iload_n 62 X rfl rfl dX12_byLaw_61 rfl ?_
            refine m_aaloadV 63 X k (by omega) k_254 (by decide) (by omega) (rr_254 _ (by omega)) dX12_byLaw_62 rfl ?_
            refine at_iconst 64 X (by decide) dX12_byLaw_63 rfl ?_
            refine m_ialoadV 65 X 1 (by omega) (F (255 + k) 1) rfl (kr_254 _ (by omega)) (er_254 _ (by omega)) (by omega) dX12_byLaw_64 rfl ?_
            refine at_goto 81 X dX12_byLaw_65 (by decide) ?_
            refine m_iastoreV 82 X (hgt L k) (by omega) k_576 e_576 (by omega) dX12_byLaw_81 rfl ?_
            refine at_iincV 85 X ((hgt L k + 1 : Nat) : Int) (w32_v (by omega) (by omega) (by omega)) rfl dX12_byLaw_82 rfl (by decide) ?_
            refine at_goto 124 X dX12_byLaw_85 (by decide) ?_
            refine at_iincV 127 X ((k + 1 : Nat) : Int) (w32_v (by omega) (by omega) (by omega)) rfl dX12_byLaw_124 rfl (by decide) ?_
            refine at_goto 21 X dX12_byLaw_127 (by decide) ?_
            exact at_sub _ (by exact ⟨rfl, rfl, rfl, trivial⟩) (ih21 (wr F 576 (hgt L k) (F (255 + k) 1)) (k + 1) (hgt L k + 1) (by first | omega | (simp only [] at *; omega)) (by first | omega | assumption) (by first | rw [hgt_op (by omega)] | rw [hgt_val (by omega)]) (fun q hq => by rw [wr_row hq]; exact hf q hq) (by first | exact rst_op (by omega) (by omega) hst (by unfold rcode; rw [if_neg (by omega), if_neg (by omega), show L.2.1 k - 3 + 3 = L.2.1 k by omega]) | exact rst_val (by omega) hst hval))
    exact at_sub _ (by exact ⟨rfl, rfl, rfl, trivial⟩) (J21 _ E 0 0 (Nat.lt_succ_self _) (by first | omega | assumption | rfl) rfl (fun _ _ => rfl) (fun j hj => absurd hj (Nat.not_lt_zero j)))
  · refine at_aload_n 8 X rfl rfl dX12_byLaw_7 rfl ?_
    refine m_getR 11 X f_X12_82 k_125 r_125_34 dX12_byLaw_8 rfl ?_
    refine at_iconst 12 X (by decide) dX12_byLaw_11 rfl ?_
    refine m_ialoadV 13 X 0 (by omega) s (hkn_E 0 (by decide)) k_577 e_577 (by omega) dX12_byLaw_12 rfl ?_
    refine at_bipush 15 X (by decide) (by decide) dX12_byLaw_13 rfl ?_
    refine at_imulV 16 X (w32 (s * 20)) rfl dX12_byLaw_15 rfl ?_
    refine at_iret X Rt ?_ (Nat.le_refl _) (Nat.le_refl _) dX12_byLaw_16
    have hp := (hR_L.resolve_right (fun q => by have := hw.1; omega)).2
    exact ⟨by rw [hp, plL_stk], E, rfl, fun _ _ => rfl⟩
theorem dX12_bearingOf_0 : decode cX12_bearingOf 0 = .ok (.iload_n 1, 1) := by decide +kernel
theorem dX12_bearingOf_1 : decode cX12_bearingOf 1 = .ok (.ifCond .ne 5, 3) := by decide +kernel
theorem dX12_bearingOf_4 : decode cX12_bearingOf 4 = .ok (.iconst 0, 1) := by decide +kernel
theorem dX12_bearingOf_5 : decode cX12_bearingOf 5 = .ok (.ireturn, 1) := by decide +kernel
theorem dX12_bearingOf_6 : decode cX12_bearingOf 6 = .ok (.iload_n 1, 1) := by decide +kernel
theorem dX12_bearingOf_7 : decode cX12_bearingOf 7 = .ok (.bipush 100, 2) := by decide +kernel
theorem dX12_bearingOf_9 : decode cX12_bearingOf 9 = .ok (.imul, 1) := by decide +kernel
theorem dX12_bearingOf_10 : decode cX12_bearingOf 10 = .ok (.iload_n 2, 1) := by decide +kernel
theorem dX12_bearingOf_11 : decode cX12_bearingOf 11 = .ok (.iadd, 1) := by decide +kernel
theorem dX12_bearingOf_12 : decode cX12_bearingOf 12 = .ok (.bipush 24, 2) := by decide +kernel
theorem dX12_bearingOf_14 : decode cX12_bearingOf 14 = .ok (.imul, 1) := by decide +kernel
theorem dX12_bearingOf_15 : decode cX12_bearingOf 15 = .ok (.iload_n 3, 1) := by decide +kernel
theorem dX12_bearingOf_16 : decode cX12_bearingOf 16 = .ok (.iadd, 1) := by decide +kernel
theorem dX12_bearingOf_17 : decode cX12_bearingOf 17 = .ok (.iconst 2, 1) := by decide +kernel
theorem dX12_bearingOf_18 : decode cX12_bearingOf 18 = .ok (.imul, 1) := by decide +kernel
theorem dX12_bearingOf_19 : decode cX12_bearingOf 19 = .ok (.iload 4, 2) := by decide +kernel
theorem dX12_bearingOf_21 : decode cX12_bearingOf 21 = .ok (.iadd, 1) := by decide +kernel
theorem dX12_bearingOf_22 : decode cX12_bearingOf 22 = .ok (.istore 5, 2) := by decide +kernel
theorem dX12_bearingOf_24 : decode cX12_bearingOf 24 = .ok (.aload_n 0, 1) := by decide +kernel
theorem dX12_bearingOf_25 : decode cX12_bearingOf 25 = .ok (.getfield 89, 3) := by decide +kernel
theorem dX12_bearingOf_28 : decode cX12_bearingOf 28 = .ok (.iload 5, 2) := by decide +kernel
theorem dX12_bearingOf_30 : decode cX12_bearingOf 30 = .ok (.iaload, 1) := by decide +kernel
theorem dX12_bearingOf_31 : decode cX12_bearingOf 31 = .ok (.aload_n 0, 1) := by decide +kernel
theorem dX12_bearingOf_32 : decode cX12_bearingOf 32 = .ok (.getfield 70, 3) := by decide +kernel
theorem dX12_bearingOf_35 : decode cX12_bearingOf 35 = .ok (.if_icmp .eq 64, 3) := by decide +kernel
theorem dX12_bearingOf_38 : decode cX12_bearingOf 38 = .ok (.aload_n 0, 1) := by decide +kernel
theorem dX12_bearingOf_39 : decode cX12_bearingOf 39 = .ok (.getfield 89, 3) := by decide +kernel
theorem dX12_bearingOf_42 : decode cX12_bearingOf 42 = .ok (.iload 5, 2) := by decide +kernel
theorem dX12_bearingOf_44 : decode cX12_bearingOf 44 = .ok (.aload_n 0, 1) := by decide +kernel
theorem dX12_bearingOf_45 : decode cX12_bearingOf 45 = .ok (.getfield 70, 3) := by decide +kernel
theorem dX12_bearingOf_48 : decode cX12_bearingOf 48 = .ok (.iastore, 1) := by decide +kernel
theorem dX12_bearingOf_49 : decode cX12_bearingOf 49 = .ok (.aload_n 0, 1) := by decide +kernel
theorem dX12_bearingOf_50 : decode cX12_bearingOf 50 = .ok (.getfield 82, 3) := by decide +kernel
theorem dX12_bearingOf_53 : decode cX12_bearingOf 53 = .ok (.iconst 0, 1) := by decide +kernel
theorem dX12_bearingOf_54 : decode cX12_bearingOf 54 = .ok (.iload_n 1, 1) := by decide +kernel
theorem dX12_bearingOf_55 : decode cX12_bearingOf 55 = .ok (.iastore, 1) := by decide +kernel
theorem dX12_bearingOf_56 : decode cX12_bearingOf 56 = .ok (.aload_n 0, 1) := by decide +kernel
theorem dX12_bearingOf_57 : decode cX12_bearingOf 57 = .ok (.getfield 82, 3) := by decide +kernel
theorem dX12_bearingOf_60 : decode cX12_bearingOf 60 = .ok (.iconst 1, 1) := by decide +kernel
theorem dX12_bearingOf_61 : decode cX12_bearingOf 61 = .ok (.iload_n 2, 1) := by decide +kernel
theorem dX12_bearingOf_62 : decode cX12_bearingOf 62 = .ok (.iastore, 1) := by decide +kernel
theorem dX12_bearingOf_63 : decode cX12_bearingOf 63 = .ok (.aload_n 0, 1) := by decide +kernel
theorem dX12_bearingOf_64 : decode cX12_bearingOf 64 = .ok (.getfield 82, 3) := by decide +kernel
theorem dX12_bearingOf_67 : decode cX12_bearingOf 67 = .ok (.iconst 2, 1) := by decide +kernel
theorem dX12_bearingOf_68 : decode cX12_bearingOf 68 = .ok (.iload_n 3, 1) := by decide +kernel
theorem dX12_bearingOf_69 : decode cX12_bearingOf 69 = .ok (.iastore, 1) := by decide +kernel
theorem dX12_bearingOf_70 : decode cX12_bearingOf 70 = .ok (.aload_n 0, 1) := by decide +kernel
theorem dX12_bearingOf_71 : decode cX12_bearingOf 71 = .ok (.getfield 82, 3) := by decide +kernel
theorem dX12_bearingOf_74 : decode cX12_bearingOf 74 = .ok (.iconst 3, 1) := by decide +kernel
theorem dX12_bearingOf_75 : decode cX12_bearingOf 75 = .ok (.iload 4, 2) := by decide +kernel
theorem dX12_bearingOf_77 : decode cX12_bearingOf 77 = .ok (.iastore, 1) := by decide +kernel
theorem dX12_bearingOf_78 : decode cX12_bearingOf 78 = .ok (.aload_n 0, 1) := by decide +kernel
theorem dX12_bearingOf_79 : decode cX12_bearingOf 79 = .ok (.getfield 86, 3) := by decide +kernel
theorem dX12_bearingOf_82 : decode cX12_bearingOf 82 = .ok (.iload 5, 2) := by decide +kernel
theorem dX12_bearingOf_84 : decode cX12_bearingOf 84 = .ok (.iconst 0, 1) := by decide +kernel
theorem dX12_bearingOf_85 : decode cX12_bearingOf 85 = .ok (.sipush 999, 3) := by decide +kernel
theorem dX12_bearingOf_88 : decode cX12_bearingOf 88 = .ok (.aload_n 0, 1) := by decide +kernel
theorem dX12_bearingOf_89 : decode cX12_bearingOf 89 = .ok (.invokevirtual 311, 3) := by decide +kernel
theorem dX12_bearingOf_92 : decode cX12_bearingOf 92 = .ok (.invokestatic 301, 3) := by decide +kernel
theorem dX12_bearingOf_95 : decode cX12_bearingOf 95 = .ok (.invokestatic 304, 3) := by decide +kernel
theorem dX12_bearingOf_98 : decode cX12_bearingOf 98 = .ok (.iastore, 1) := by decide +kernel
theorem dX12_bearingOf_99 : decode cX12_bearingOf 99 = .ok (.aload_n 0, 1) := by decide +kernel
theorem dX12_bearingOf_100 : decode cX12_bearingOf 100 = .ok (.getfield 86, 3) := by decide +kernel
theorem dX12_bearingOf_103 : decode cX12_bearingOf 103 = .ok (.iload 5, 2) := by decide +kernel
theorem dX12_bearingOf_105 : decode cX12_bearingOf 105 = .ok (.iaload, 1) := by decide +kernel
theorem dX12_bearingOf_106 : decode cX12_bearingOf 106 = .ok (.ireturn, 1) := by decide +kernel
theorem ct_X12_bearingOf {g : Gw} (hG : GF g) {z : Bool} (E : Mm) (L : LW) (hR_L : RLw E L) (hw : WL L) (st : Nat) (hst : st < 2147483648) (hK : RKn E L st) (s t h m : Nat) (hs : s ≤ 11) (ht : t ≤ 99) (hh : h < 24) (hm : m < 2) : CT g yX12_bearingOf cX12_bearingOf 6 (some .int) 3 65 0 0 K2 z [mR 125, mI ((s : Nat) : Int), mI ((t : Nat) : Int), mI ((h : Nat) : Int), mI ((m : Nat) : Int)] (ov E) K2 z (fun r D' => r = some (mI (borP L s t h m)) ∧ ∃ E1, D' = ov E1 ∧ RKn E1 L st ∧ ∀ q, q ≠ 576 → q ≠ 577 → q ≠ 578 → q ≠ 579 → E1 q = E q) := by
  refine CT.mk hG (by decide +kernel) (Nat.le_of_ble_eq_true rfl) (fun κ X Rt _ ok => ?_)
  refine at_iload_n 1 X rfl rfl dX12_bearingOf_0 rfl ?_
  refine at_if_ne 4 6 X dX12_bearingOf_1 rfl (by decide) (fun h1 => ?_) (fun h1 => ?_)
  · refine at_iload_n 7 X rfl rfl dX12_bearingOf_6 rfl ?_
    refine at_bipush 9 X (by decide) (by decide) dX12_bearingOf_7 rfl ?_
    refine at_imulV 10 X ((s * 100 : Nat) : Int) (w32_v (by omega) (by omega) (by omega)) dX12_bearingOf_9 rfl ?_
    refine at_iload_n 11 X rfl rfl dX12_bearingOf_10 rfl ?_
    refine at_iaddV 12 X ((s * 100 + t : Nat) : Int) (w32_v (by omega) (by omega) (by omega)) dX12_bearingOf_11 rfl ?_
    refine at_bipush 14 X (by decide) (by decide) dX12_bearingOf_12 rfl ?_
    refine at_imulV 15 X (((s * 100 + t) * 24 : Nat) : Int) (w32_v (by omega) (by omega) (by omega)) dX12_bearingOf_14 rfl ?_
    refine at_iload_n 16 X rfl rfl dX12_bearingOf_15 rfl ?_
    refine at_iaddV 17 X (((s * 100 + t) * 24 + h : Nat) : Int) (w32_v (by omega) (by omega) (by omega)) dX12_bearingOf_16 rfl ?_
    refine at_iconst 18 X (by decide) dX12_bearingOf_17 rfl ?_
    refine at_imulV 19 X ((((s * 100 + t) * 24 + h) * 2 : Nat) : Int) (w32_v (by omega) (by omega) (by omega)) dX12_bearingOf_18 rfl ?_
    refine at_iload 21 X rfl dX12_bearingOf_19 rfl ?_
    have hkl : kx s t h m < 57600 := by unfold kx; omega
    refine at_iaddV 22 X ((kx s t h m : Nat) : Int) (w32_v (by unfold kx; omega) (by omega) (by omega)) dX12_bearingOf_21 rfl ?_
    refine at_istore 24 X dX12_bearingOf_22 rfl (by decide) ?_
    refine at_aload_n 25 X rfl rfl dX12_bearingOf_24 rfl ?_
    refine m_getR 28 X f_X12_89 k_125 r_125_36 dX12_bearingOf_25 rfl ?_
    refine at_iload 30 X rfl dX12_bearingOf_28 rfl ?_
    refine m_ialoadV 31 X (kx s t h m) (by omega) (E 579 (kx s t h m)) rfl k_579 e_579 (by omega) dX12_bearingOf_30 rfl ?_
    refine at_aload_n 32 X rfl rfl dX12_bearingOf_31 rfl ?_
    refine m_getIV 35 X ((st : Nat) : Int) hK.1 f_X12_70 k_125 rn_125_30 dX12_bearingOf_32 rfl ?_
    refine at_icmp_eq 38 99 X dX12_bearingOf_35 rfl (by decide) (fun h35 => ?_) (fun h35 => ?_)
    · refine at_aload_n 100 X rfl rfl dX12_bearingOf_99 rfl ?_
      refine m_getR 103 X f_X12_86 k_125 r_125_35 dX12_bearingOf_100 rfl ?_
      refine at_iload 105 X rfl dX12_bearingOf_103 rfl ?_
      refine m_ialoadV 106 X (kx s t h m) (by omega) (E 578 (kx s t h m)) rfl k_578 e_578 (by omega) dX12_bearingOf_105 rfl ?_
      refine at_iret X Rt ?_ (Nat.le_refl _) (Nat.le_refl _) dX12_bearingOf_106
      exact ⟨by rw [(hK.2 s t h m hs ht hh hm).2 h35], E, rfl, hK, fun _ _ _ _ _ => rfl⟩
    · refine at_aload_n 39 X rfl rfl dX12_bearingOf_38 rfl ?_
      refine m_getR 42 X f_X12_89 k_125 r_125_36 dX12_bearingOf_39 rfl ?_
      refine at_iload 44 X rfl dX12_bearingOf_42 rfl ?_
      refine at_aload_n 45 X rfl rfl dX12_bearingOf_44 rfl ?_
      refine m_getIV 48 X ((st : Nat) : Int) hK.1 f_X12_70 k_125 rn_125_30 dX12_bearingOf_45 rfl ?_
      refine m_iastoreV 49 X (kx s t h m) (by omega) k_579 e_579 (by omega) dX12_bearingOf_48 rfl ?_
      refine at_aload_n 50 X rfl rfl dX12_bearingOf_49 rfl ?_
      refine m_getR 53 X f_X12_82 k_125 r_125_34 dX12_bearingOf_50 rfl ?_
      refine at_iconst 54 X (by decide) dX12_bearingOf_53 rfl ?_
      refine at_iload_n 55 X rfl rfl dX12_bearingOf_54 rfl ?_
      refine m_iastoreV 56 X 0 (by omega) k_577 e_577 (by omega) dX12_bearingOf_55 rfl ?_
      refine at_aload_n 57 X rfl rfl dX12_bearingOf_56 rfl ?_
      refine m_getR 60 X f_X12_82 k_125 r_125_34 dX12_bearingOf_57 rfl ?_
      refine at_iconst 61 X (by decide) dX12_bearingOf_60 rfl ?_
      refine at_iload_n 62 X rfl rfl dX12_bearingOf_61 rfl ?_
      refine m_iastoreV 63 X 1 (by omega) k_577 e_577 (by omega) dX12_bearingOf_62 rfl ?_
      refine at_aload_n 64 X rfl rfl dX12_bearingOf_63 rfl ?_
      refine m_getR 67 X f_X12_82 k_125 r_125_34 dX12_bearingOf_64 rfl ?_
      refine at_iconst 68 X (by decide) dX12_bearingOf_67 rfl ?_
      refine at_iload_n 69 X rfl rfl dX12_bearingOf_68 rfl ?_
      refine m_iastoreV 70 X 2 (by omega) k_577 e_577 (by omega) dX12_bearingOf_69 rfl ?_
      refine at_aload_n 71 X rfl rfl dX12_bearingOf_70 rfl ?_
      refine m_getR 74 X f_X12_82 k_125 r_125_34 dX12_bearingOf_71 rfl ?_
      refine at_iconst 75 X (by decide) dX12_bearingOf_74 rfl ?_
      refine at_iload 77 X rfl dX12_bearingOf_75 rfl ?_
      refine m_iastoreV 78 X 3 (by omega) k_577 e_577 (by omega) dX12_bearingOf_77 rfl ?_
      refine at_aload_n 79 X rfl rfl dX12_bearingOf_78 rfl ?_
      refine m_getR 82 X f_X12_86 k_125 r_125_35 dX12_bearingOf_79 rfl ?_
      refine at_iload 84 X rfl dX12_bearingOf_82 rfl ?_
      refine at_iconst 85 X (by decide) dX12_bearingOf_84 rfl ?_
      refine at_sipush 88 X (by decide) (by decide) dX12_bearingOf_85 rfl ?_
      refine at_aload_n 89 X rfl rfl dX12_bearingOf_88 rfl ?_
      refine at_callV 92 X _ 12 (ct_X12_byLaw hG (wr (wr (wr (wr (wr E 579 (kx s t h m) ((st : Nat) : Int)) 577 0 ((s : Nat) : Int)) 577 1 ((t : Nat) : Int)) 577 2 ((h : Nat) : Int)) 577 3 ((m : Nat) : Int)) L (hR_L.fr hw.2.1 (by simp (disch := omega) only [wr_o]) (fun q h1 h2 => by simp (disch := omega) only [wr_row])) hw s t h m (fun i hi => by rcases (show i = 0 ∨ i = 1 ∨ i = 2 ∨ i = 3 by omega) with rfl | rfl | rfl | rfl <;> simp (disch := omega) only [wr_s, wr_o] <;> rfl)) clX12 rfl k_125 mo_X12_byLaw w_2081 vo_X12_byLaw.1 vo_X12_byLaw.2 rfl rfl (crm Rt (by decide)) (Nat.le_of_ble_eq_true rfl) dX12_bearingOf_89 rfl ?_
      rintro _ _ ⟨rfl, F, rfl, hqF⟩
      refine at_callS 95 X (ct_X12_less hG _ _ _) mo_X12_less w_2088 so_X12_less rfl rfl (crm Rt (by decide)) (Nat.le_of_ble_eq_true rfl) dX12_bearingOf_92 rfl ?_
      rintro _ _ ⟨rfl, rfl⟩
      refine at_callS 98 X (ct_X12_more hG _ _ _) mo_X12_more w_2091 so_X12_more rfl rfl (crm Rt (by decide)) (Nat.le_of_ble_eq_true rfl) dX12_bearingOf_95 rfl ?_
      rintro _ _ ⟨rfl, rfl⟩
      rw [clamp_eq]
      refine m_iastoreV 99 X (kx s t h m) (by omega) k_578 e_578 (by omega) dX12_bearingOf_98 rfl ?_
      refine at_aload_n 100 X rfl rfl dX12_bearingOf_99 rfl ?_
      refine m_getR 103 X f_X12_86 k_125 r_125_35 dX12_bearingOf_100 rfl ?_
      refine at_iload 105 X rfl dX12_bearingOf_103 rfl ?_
      refine m_ialoadV 106 X (kx s t h m) (by omega) (clampB (stk L s t h m L.1 0)) (wr_s _ _ _ _) k_578 e_578 (by omega) dX12_bearingOf_105 rfl ?_
      refine at_iret X Rt ?_ (Nat.le_refl _) (Nat.le_refl _) dX12_bearingOf_106
      have hb : clampB (stk L s t h m L.1 0) = borP L s t h m := by unfold borP; rw [if_neg (by omega)]
      refine ⟨by rw [hb], _, rfl, ⟨?_, fun s' t' h' m' k1 k2 k3 k4 => ?_⟩, fun q k1 k2 k3 k4 => ?_⟩
      · rw [wr_o (by omega), hqF 125 (by decide)]
        simp (disch := omega) only [wr_o]
        exact hK.1
      · by_cases e : kx s' t' h' m' = kx s t h m
        · obtain ⟨rfl, rfl, rfl, rfl⟩ := kx_inj k2 k3 k4 ht hh hm e
          refine ⟨?_, fun _ => by rw [wr_s, hb]⟩
          rw [wr_o (by omega), hqF 579 (by decide)]
          simp (disch := omega) only [wr_o, wr_s]
          exact Int.le_refl _
        · refine ⟨?_, fun k5 => ?_⟩
          · rw [wr_o (by omega), hqF 579 (by decide)]
            simp (disch := omega) only [wr_o]
            exact (hK.2 s' t' h' m' k1 k2 k3 k4).1
          · rw [wr_o (Or.inr e), hqF 578 (by decide)]
            rw [wr_o (by omega), hqF 579 (by decide)] at k5
            simp (disch := omega) only [wr_o] at k5 ⊢
            exact (hK.2 s' t' h' m' k1 k2 k3 k4).2 k5
      · rw [wr_row k3, hqF q k1]
        simp (disch := omega) only [wr_row]
  · refine at_iconst 5 X (by decide) dX12_bearingOf_4 rfl ?_
    refine at_iret X Rt ?_ (Nat.le_refl _) (Nat.le_refl _) dX12_bearingOf_5
    exact ⟨by unfold borP; rw [if_pos (by omega)], E, rfl, hK, fun _ _ _ _ _ => rfl⟩
