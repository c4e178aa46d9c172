theorem dL_law__2789 : decode code 2789 = .ok (.aload_n 1, 1) := by decide +kernel
theorem dL_law__2790 : decode code 2790 = .ok (.aload_n 0, 1) := by decide +kernel
theorem dL_law__2791 : decode code 2791 = .ok (.iload 4, 2) := by decide +kernel
theorem dL_law__2793 : decode code 2793 = .ok (.iconst 1, 1) := by decide +kernel
theorem dL_law__2794 : decode code 2794 = .ok (.iadd, 1) := by decide +kernel
theorem dL_law__2795 : decode code 2795 = .ok (.iaload, 1) := by decide +kernel
theorem dL_law__2796 : decode code 2796 = .ok (.aload_n 0, 1) := by decide +kernel
theorem dL_law__2797 : decode code 2797 = .ok (.iload 4, 2) := by decide +kernel
theorem dL_law__2799 : decode code 2799 = .ok (.iconst 2, 1) := by decide +kernel
theorem dL_law__2800 : decode code 2800 = .ok (.iadd, 1) := by decide +kernel
theorem dL_law__2801 : decode code 2801 = .ok (.iaload, 1) := by decide +kernel
theorem dL_law__2802 : decode code 2802 = .ok (.aload_n 0, 1) := by decide +kernel
theorem dL_law__2803 : decode code 2803 = .ok (.iload 4, 2) := by decide +kernel
theorem dL_law__2805 : decode code 2805 = .ok (.iconst 3, 1) := by decide +kernel
theorem dL_law__2806 : decode code 2806 = .ok (.iadd, 1) := by decide +kernel
theorem dL_law__2807 : decode code 2807 = .ok (.iaload, 1) := by decide +kernel
theorem dL_law__2808 : decode code 2808 = .ok (.aload_n 3, 1) := by decide +kernel
theorem dL_law__2809 : decode code 2809 = .ok (.invokestatic 283, 3) := by decide +kernel
theorem dL_law__2812 : decode code 2812 = .ok (.istore 5, 2) := by decide +kernel
theorem dL_law__2814 : decode code 2814 = .ok (.aload_n 2, 1) := by decide +kernel
theorem dL_law__2815 : decode code 2815 = .ok (.aload_n 0, 1) := by decide +kernel
theorem dL_law__2816 : decode code 2816 = .ok (.iload 4, 2) := by decide +kernel
theorem dL_law__2818 : decode code 2818 = .ok (.iconst 1, 1) := by decide +kernel
theorem dL_law__2819 : decode code 2819 = .ok (.iadd, 1) := by decide +kernel
theorem dL_law__2820 : decode code 2820 = .ok (.iaload, 1) := by decide +kernel
theorem dL_law__2821 : decode code 2821 = .ok (.aload_n 0, 1) := by decide +kernel
theorem dL_law__2822 : decode code 2822 = .ok (.iload 4, 2) := by decide +kernel
theorem dL_law__2824 : decode code 2824 = .ok (.iconst 2, 1) := by decide +kernel
theorem dL_law__2825 : decode code 2825 = .ok (.iadd, 1) := by decide +kernel
theorem dL_law__2826 : decode code 2826 = .ok (.iaload, 1) := by decide +kernel
theorem dL_law__2827 : decode code 2827 = .ok (.aload_n 0, 1) := by decide +kernel
theorem dL_law__2828 : decode code 2828 = .ok (.iload 4, 2) := by decide +kernel
theorem dL_law__2830 : decode code 2830 = .ok (.iconst 3, 1) := by decide +kernel
theorem dL_law__2831 : decode code 2831 = .ok (.iadd, 1) := by decide +kernel
theorem dL_law__2832 : decode code 2832 = .ok (.iaload, 1) := by decide +kernel
theorem dL_law__2833 : decode code 2833 = .ok (.invokevirtual 285, 3) := by decide +kernel
theorem dL_law__2836 : decode code 2836 = .ok (.lstore 6, 2) := by decide +kernel
theorem dL_law__2838 : decode code 2838 = .ok (.aload_n 2, 1) := by decide +kernel
theorem dL_law__2839 : decode code 2839 = .ok (.invokevirtual 160, 3) := by decide +kernel
theorem dL_law__2842 : decode code 2842 = .ok (.iload 5, 2) := by decide +kernel
theorem dL_law__2844 : decode code 2844 = .ok (.if_icmp .eq 5, 3) := by decide +kernel
theorem dL_law__2847 : decode code 2847 = .ok (.iconst 0, 1) := by decide +kernel
theorem dL_law__2848 : decode code 2848 = .ok (.ireturn, 1) := by decide +kernel
theorem dL_law__2849 : decode code 2849 = .ok (.iload 5, 2) := by decide +kernel
theorem dL_law__2851 : decode code 2851 = .ok (.ifCond .ne 14, 3) := by decide +kernel
theorem dL_law__2854 : decode code 2854 = .ok (.aload_n 3, 1) := by decide +kernel
theorem dL_law__2855 : decode code 2855 = .ok (.iconst 0, 1) := by decide +kernel
theorem dL_law__2856 : decode code 2856 = .ok (.laload, 1) := by decide +kernel
theorem dL_law__2857 : decode code 2857 = .ok (.lload 6, 2) := by decide +kernel
theorem dL_law__2859 : decode code 2859 = .ok (.lcmp, 1) := by decide +kernel
theorem dL_law__2860 : decode code 2860 = .ok (.ifCond .eq 5, 3) := by decide +kernel
theorem dL_law__2863 : decode code 2863 = .ok (.iconst 0, 1) := by decide +kernel
theorem dL_law__2864 : decode code 2864 = .ok (.ireturn, 1) := by decide +kernel
theorem dL_law__2865 : decode code 2865 = .ok (.goto 501, 3) := by decide +kernel
theorem case_39 {INV INV' : Mm → Prop} {g : Gw} {p : Program} {e : Env} {s : State} {m : MethodId} {below : List Frame} {meth : Method} {c : Code} {b L : Nat} {xs : Nat → Int32} (hL : L ≤ 3072) (hG : GF g) (X : CX g (KL p e s m below meth c b) code R_law 8) (S : SCR g (KL p e s m below meth c b) b L xs) {fr lo mc ms fr2 lo2 : Nat} (M : Mm → Int → Int → Int → Nat → Int → Mm → Prop) (hX : ∀ (E : Mm) (x0 x1 x2 : Int), INV E → CTX g yX11_slack cX11_slack 4 (some .long) fr lo mc ms K2 false [mR 0, mI x0, mI x1, mI x2] (ov E) K2 false (fun r D' => ∃ (v : Int) (E1 : Mm), r = some (mL v) ∧ D' = ov E1 ∧ M E x0 x1 x2 0 v E1) (fun X D' => ∃ (c : Nat) (E1 : Mm), ((c = 1 ∧ X = "java/lang/IndexOutOfBoundsException") ∨ (c = 2 ∧ X = "java/lang/IllegalArgumentException")) ∧ D' = ov E1 ∧ M E x0 x1 x2 c 0 E1)) (hM : ∀ (E : Mm) (x0 x1 x2 : Int) (c : Nat) (v : Int) (E1 : Mm), INV E → M E x0 x1 x2 c v E1 → CT g yX12_slack cX12_slack 4 (some .long) fr2 lo2 0 0 K2 false [mR 125, mI x0, mI x1, mI x2] (ov (if c = 0 then wr E1 813 0 v else E1)) K2 false (fun r D' => ∃ (bb : Int) (E2 : Mm), r = some (mL bb) ∧ D' = ov E2 ∧ INV' E2 ∧ E2 125 0 = (c : Int) ∧ (c = 0 → E2 813 0 = bb))) (hr1 : fr + 2 ≤ room_1.frames ∧ 8 + (6 + 11) + (lo + 23) ≤ room_1.locals) (hr2 : fr2 + 1 ≤ room_1.frames ∧ 8 + (4 + 11) + lo2 ≤ room_1.locals) (hmc : mc ≤ 10) (hms : ms ≤ 100) (E : Mm) (n cells slots : Nat) (hE : INV E) (hn : n + 6 ≤ L) (hc : cells + 10 ≤ 601024) (hs : slots + 100 ≤ 7293034) (hend : ∀ E' : Mm, INV' E' → AT g (KL p e s m below meth c b) K2 false (cells + 10) (slots + 100) 3366 (lawL b n) [] (ov E')) : AT g (KL p e s m below meth c b) K2 false cells slots 2789 (lawL b n) [] (ov E) := by
  refine at_aload_n 2790 X rfl rfl dL_law__2789 rfl ?_
  refine at_xload_n 2791 X rfl rfl dL_law__2790 rfl ?_
  refine at_iload 2793 X rfl dL_law__2791 rfl ?_
  refine at_iconst 2794 X (by decide) dL_law__2793 rfl ?_
  refine at_iadd 2795 X dL_law__2794 rfl ?_
  rw [w32_id (by omega) (by omega)]
  refine at_xint 2796 X S (by omega) (by omega) dL_law__2795 rfl ?_
  refine at_xload_n 2797 X rfl rfl dL_law__2796 rfl ?_
  refine at_iload 2799 X rfl dL_law__2797 rfl ?_
  refine at_iconst 2800 X (by decide) dL_law__2799 rfl ?_
  refine at_iadd 2801 X dL_law__2800 rfl ?_
  rw [w32_id (by omega) (by omega)]
  refine at_xint 2802 X S (by omega) (by omega) dL_law__2801 rfl ?_
  refine at_xload_n 2803 X rfl rfl dL_law__2802 rfl ?_
  refine at_iload 2805 X rfl dL_law__2803 rfl ?_
  refine at_iconst 2806 X (by decide) dL_law__2805 rfl ?_
  refine at_iadd 2807 X dL_law__2806 rfl ?_
  rw [w32_id (by omega) (by omega)]
  refine at_xint 2808 X S (by omega) (by omega) dL_law__2807 rfl ?_
  refine at_aload_n 2809 X rfl rfl dL_law__2808 rfl ?_
  refine at_callSH (n := 5) 2812 X (lh_slack hG E _ _ _ (M E _ _ _) (hX E _ _ _ hE)) w_1670 w_120 rfl (by decide +kernel) w_1668 w_1669 rfl rfl (crl ⟨by omega, by omega⟩ (by omega) (by omega)) (Nat.le_of_ble_eq_true rfl) dL_law__2809 rfl ?_
  rintro _ _ ⟨cc, v, E1, rfl, hM1, rfl⟩
  refine at_istore 2814 X dL_law__2812 rfl (by decide) ?_
  refine at_aload_n 2815 X rfl rfl dL_law__2814 rfl ?_
  refine at_xload_n 2816 X rfl rfl dL_law__2815 rfl ?_
  refine at_iload 2818 X rfl dL_law__2816 rfl ?_
  refine at_iconst 2819 X (by decide) dL_law__2818 rfl ?_
  refine at_iadd 2820 X dL_law__2819 rfl ?_
  rw [w32_id (by omega) (by omega)]
  refine at_xint 2821 X S (by omega) (by omega) dL_law__2820 rfl ?_
  refine at_xload_n 2822 X rfl rfl dL_law__2821 rfl ?_
  refine at_iload 2824 X rfl dL_law__2822 rfl ?_
  refine at_iconst 2825 X (by decide) dL_law__2824 rfl ?_
  refine at_iadd 2826 X dL_law__2825 rfl ?_
  rw [w32_id (by omega) (by omega)]
  refine at_xint 2827 X S (by omega) (by omega) dL_law__2826 rfl ?_
  refine at_xload_n 2828 X rfl rfl dL_law__2827 rfl ?_
  refine at_iload 2830 X rfl dL_law__2828 rfl ?_
  refine at_iconst 2831 X (by decide) dL_law__2830 rfl ?_
  refine at_iadd 2832 X dL_law__2831 rfl ?_
  rw [w32_id (by omega) (by omega)]
  refine at_xint 2833 X S (by omega) (by omega) dL_law__2832 rfl ?_
  refine at_callV 2836 X _ 12 (hM E _ _ _ _ _ _ hE hM1) clX12 rfl k_125 mo_X12_slack w_2225 vo_X12_slack.1 vo_X12_slack.2 rfl rfl (crl ⟨by omega, by omega⟩ (by omega) (by omega)) (Nat.le_of_ble_eq_true rfl) dL_law__2833 rfl ?_
  rintro _ _ ⟨bb, E2, rfl, rfl, hE2, hth, hbb⟩
  refine at_lstore 2838 X dL_law__2836 rfl (by decide) ?_
  refine at_aload_n 2839 X rfl rfl dL_law__2838 rfl ?_
  refine at_callV 2842 X _ 12 (ct_X12_thrown hG E2) clX12 rfl k_125 mo_X12_thrown w_1945 vo_X12_thrown.1 vo_X12_thrown.2 rfl rfl (crl ⟨Nat.le_of_ble_eq_true rfl, Nat.le_of_ble_eq_true rfl⟩ (by omega) (by omega)) (Nat.le_of_ble_eq_true rfl) dL_law__2839 rfl ?_
  rintro _ _ ⟨rfl, rfl⟩
  rw [hth]
  refine at_iload 2844 X rfl dL_law__2842 rfl ?_
  refine at_icmp_eq 2847 2849 X dL_law__2844 rfl (by decide) (fun _ => ?_) (fun h => absurd rfl h)
  refine at_iload 2851 X rfl dL_law__2849 rfl ?_
  refine at_if_ne 2854 2865 X dL_law__2851 rfl (by decide) (fun h => ?_) (fun h => ?_)
  · refine at_goto 3366 X dL_law__2865 (by decide) ?_
    exact at_sub _ (by exact ⟨rfl, rfl, rfl, rfl, rfl, trivial⟩) (at_widen (by omega) (by omega) (hend E2 hE2))
  · have hc0 : cc = 0 := by omega
    have hbb := hbb hc0
    refine at_aload_n 2855 X rfl rfl dL_law__2854 rfl ?_
    refine at_iconst 2856 X (by decide) dL_law__2855 rfl ?_
    refine m_laload 2857 X k_813 e_813 (by decide) (by decide) dL_law__2856 rfl ?_
    refine at_lload 2859 X rfl dL_law__2857 rfl ?_
    refine at_lcmp 2860 X dL_law__2859 rfl ?_
    refine at_if_eq 2863 2865 X dL_law__2860 rfl (by decide) (fun _ => ?_) (fun h => absurd (lcmp_eq (by first | exact hbb | (rw [show (0 : Int).toNat = 0 from rfl, hbb]; omega))) h)
    refine at_goto 3366 X dL_law__2865 (by decide) ?_
    exact at_sub _ (by exact ⟨rfl, rfl, rfl, rfl, rfl, trivial⟩) (at_widen (by omega) (by omega) (hend E2 hE2))
theorem dL_law__2868 : decode code 2868 = .ok (.aload_n 1, 1) := by decide +kernel
theorem dL_law__2869 : decode code 2869 = .ok (.aload_n 0, 1) := by decide +kernel
theorem dL_law__2870 : decode code 2870 = .ok (.iload 4, 2) := by decide +kernel
theorem dL_law__2872 : decode code 2872 = .ok (.iconst 1, 1) := by decide +kernel
theorem dL_law__2873 : decode code 2873 = .ok (.iadd, 1) := by decide +kernel
theorem dL_law__2874 : decode code 2874 = .ok (.iaload, 1) := by decide +kernel
theorem dL_law__2875 : decode code 2875 = .ok (.aload_n 3, 1) := by decide +kernel
theorem dL_law__2876 : decode code 2876 = .ok (.invokestatic 286, 3) := by decide +kernel
theorem dL_law__2879 : decode code 2879 = .ok (.istore 5, 2) := by decide +kernel
theorem dL_law__2881 : decode code 2881 = .ok (.aload_n 2, 1) := by decide +kernel
theorem dL_law__2882 : decode code 2882 = .ok (.aload_n 0, 1) := by decide +kernel
theorem dL_law__2883 : decode code 2883 = .ok (.iload 4, 2) := by decide +kernel
theorem dL_law__2885 : decode code 2885 = .ok (.iconst 1, 1) := by decide +kernel
theorem dL_law__2886 : decode code 2886 = .ok (.iadd, 1) := by decide +kernel
theorem dL_law__2887 : decode code 2887 = .ok (.iaload, 1) := by decide +kernel
theorem dL_law__2888 : decode code 2888 = .ok (.invokevirtual 288, 3) := by decide +kernel
theorem dL_law__2891 : decode code 2891 = .ok (.istore 6, 2) := by decide +kernel
theorem dL_law__2893 : decode code 2893 = .ok (.aload_n 2, 1) := by decide +kernel
theorem dL_law__2894 : decode code 2894 = .ok (.invokevirtual 160, 3) := by decide +kernel
theorem dL_law__2897 : decode code 2897 = .ok (.iload 5, 2) := by decide +kernel
theorem dL_law__2899 : decode code 2899 = .ok (.if_icmp .eq 5, 3) := by decide +kernel
theorem dL_law__2902 : decode code 2902 = .ok (.iconst 0, 1) := by decide +kernel
theorem dL_law__2903 : decode code 2903 = .ok (.ireturn, 1) := by decide +kernel
theorem dL_law__2904 : decode code 2904 = .ok (.iload 5, 2) := by decide +kernel
theorem dL_law__2906 : decode code 2906 = .ok (.ifCond .ne 15, 3) := by decide +kernel
theorem dL_law__2909 : decode code 2909 = .ok (.aload_n 3, 1) := by decide +kernel
theorem dL_law__2910 : decode code 2910 = .ok (.iconst 0, 1) := by decide +kernel
theorem dL_law__2911 : decode code 2911 = .ok (.laload, 1) := by decide +kernel
theorem dL_law__2912 : decode code 2912 = .ok (.iload 6, 2) := by decide +kernel
theorem dL_law__2914 : decode code 2914 = .ok (.i2l, 1) := by decide +kernel
theorem dL_law__2915 : decode code 2915 = .ok (.lcmp, 1) := by decide +kernel
theorem dL_law__2916 : decode code 2916 = .ok (.ifCond .eq 5, 3) := by decide +kernel
theorem dL_law__2919 : decode code 2919 = .ok (.iconst 0, 1) := by decide +kernel
theorem dL_law__2920 : decode code 2920 = .ok (.ireturn, 1) := by decide +kernel
theorem dL_law__2921 : decode code 2921 = .ok (.goto 445, 3) := by decide +kernel
theorem case_40 {INV INV' : Mm → Prop} {g : Gw} {p : Program} {e : Env} {s : State} {m : MethodId} {below : List Frame} {meth : Method} {c : Code} {b L : Nat} {xs : Nat → Int32} (hL : L ≤ 3072) (hG : GF g) (X : CX g (KL p e s m below meth c b) code R_law 8) (S : SCR g (KL p e s m below meth c b) b L xs) {fr lo mc ms fr2 lo2 : Nat} (M : Mm → Int → Nat → Int → Mm → Prop) (hX : ∀ (E : Mm) (x0 : Int), INV E → CTX g yX11_lighter cX11_lighter 6 (some .int) fr lo mc ms K2 false [mR 0, mI x0] (ov E) K2 false (fun r D' => ∃ (v : Int) (E1 : Mm), r = some (mI v) ∧ D' = ov E1 ∧ M E x0 0 v E1) (fun X D' => ∃ (c : Nat) (E1 : Mm), ((c = 1 ∧ X = "java/util/NoSuchElementException")) ∧ D' = ov E1 ∧ M E x0 c 0 E1)) (hM : ∀ (E : Mm) (x0 : Int) (c : Nat) (v : Int) (E1 : Mm), INV E → M E x0 c v E1 → CT g yX12_lighter cX12_lighter 7 (some .int) fr2 lo2 0 0 K2 false [mR 125, mI x0] (ov (if c = 0 then wr E1 813 0 v else E1)) K2 false (fun r D' => ∃ (bb : Int) (E2 : Mm), r = some (mI bb) ∧ D' = ov E2 ∧ INV' E2 ∧ E2 125 0 = (c : Int) ∧ (c = 0 → E2 813 0 = bb))) (hr1 : fr + 2 ≤ room_1.frames ∧ 8 + (4 + 11) + (lo + 25) ≤ room_1.locals) (hr2 : fr2 + 1 ≤ room_1.frames ∧ 8 + (7 + 11) + lo2 ≤ room_1.locals) (hmc : mc ≤ 10) (hms : ms ≤ 100) (E : Mm) (n cells slots : Nat) (hE : INV E) (hn : n + 6 ≤ L) (hc : cells + 10 ≤ 601024) (hs : slots + 100 ≤ 7293034) (hend : ∀ E' : Mm, INV' E' → AT g (KL p e s m below meth c b) K2 false (cells + 10) (slots + 100) 3366 (lawL b n) [] (ov E')) : AT g (KL p e s m below meth c b) K2 false cells slots 2868 (lawL b n) [] (ov E) := by
  refine at_aload_n 2869 X rfl rfl dL_law__2868 rfl ?_
  refine at_xload_n 2870 X rfl rfl dL_law__2869 rfl ?_
  refine at_iload 2872 X rfl dL_law__2870 rfl ?_
  refine at_iconst 2873 X (by decide) dL_law__2872 rfl ?_
  refine at_iadd 2874 X dL_law__2873 rfl ?_
  rw [w32_id (by omega) (by omega)]
  refine at_xint 2875 X S (by omega) (by omega) dL_law__2874 rfl ?_
  refine at_aload_n 2876 X rfl rfl dL_law__2875 rfl ?_
  refine at_callSH (n := 3) 2879 X (lh_lighter hG E _ (M E _) (hX E _ hE)) w_1677 w_120 rfl (by decide +kernel) w_1675 w_1676 rfl rfl (crl ⟨by omega, by omega⟩ (by omega) (by omega)) (Nat.le_of_ble_eq_true rfl) dL_law__2876 rfl ?_
  rintro _ _ ⟨cc, v, E1, rfl, hM1, rfl⟩
  refine at_istore 2881 X dL_law__2879 rfl (by decide) ?_
  refine at_aload_n 2882 X rfl rfl dL_law__2881 rfl ?_
  refine at_xload_n 2883 X rfl rfl dL_law__2882 rfl ?_
  refine at_iload 2885 X rfl dL_law__2883 rfl ?_
  refine at_iconst 2886 X (by decide) dL_law__2885 rfl ?_
  refine at_iadd 2887 X dL_law__2886 rfl ?_
  rw [w32_id (by omega) (by omega)]
  refine at_xint 2888 X S (by omega) (by omega) dL_law__2887 rfl ?_
  refine at_callV 2891 X _ 12 (hM E _ _ _ _ hE hM1) clX12 rfl k_125 mo_X12_lighter w_2390 vo_X12_lighter.1 vo_X12_lighter.2 rfl rfl (crl ⟨by omega, by omega⟩ (by omega) (by omega)) (Nat.le_of_ble_eq_true rfl) dL_law__2888 rfl ?_
  rintro _ _ ⟨bb, E2, rfl, rfl, hE2, hth, hbb⟩
  refine at_istore 2893 X dL_law__2891 rfl (by decide) ?_
  refine at_aload_n 2894 X rfl rfl dL_law__2893 rfl ?_
  refine at_callV 2897 X _ 12 (ct_X12_thrown hG E2) clX12 rfl k_125 mo_X12_thrown w_1945 vo_X12_thrown.1 vo_X12_thrown.2 rfl rfl (crl ⟨Nat.le_of_ble_eq_true rfl, Nat.le_of_ble_eq_true rfl⟩ (by omega) (by omega)) (Nat.le_of_ble_eq_true rfl) dL_law__2894 rfl ?_
  rintro _ _ ⟨rfl, rfl⟩
  rw [hth]
  refine at_iload 2899 X rfl dL_law__2897 rfl ?_
  refine at_icmp_eq 2902 2904 X dL_law__2899 rfl (by decide) (fun _ => ?_) (fun h => absurd rfl h)
  refine at_iload 2906 X rfl dL_law__2904 rfl ?_
  refine at_if_ne 2909 2921 X dL_law__2906 rfl (by decide) (fun h => ?_) (fun h => ?_)
  · refine at_goto 3366 X dL_law__2921 (by decide) ?_
    exact at_sub _ (by exact ⟨rfl, rfl, rfl, rfl, rfl, trivial⟩) (at_widen (by omega) (by omega) (hend E2 hE2))
  · have hc0 : cc = 0 := by omega
    have hbb := hbb hc0
    refine at_aload_n 2910 X rfl rfl dL_law__2909 rfl ?_
    refine at_iconst 2911 X (by decide) dL_law__2910 rfl ?_
    refine m_laload 2912 X k_813 e_813 (by decide) (by decide) dL_law__2911 rfl ?_
    refine at_iload 2914 X rfl dL_law__2912 rfl ?_
    refine at_i2l 2915 X dL_law__2914 rfl ?_
    refine at_lcmp 2916 X dL_law__2915 rfl ?_
    refine at_if_eq 2919 2921 X dL_law__2916 rfl (by decide) (fun _ => ?_) (fun h => absurd (lcmp_eq (by first | exact hbb | (rw [show (0 : Int).toNat = 0 from rfl, hbb]; omega))) h)
    refine at_goto 3366 X dL_law__2921 (by decide) ?_
    exact at_sub _ (by exact ⟨rfl, rfl, rfl, rfl, rfl, trivial⟩) (at_widen (by omega) (by omega) (hend E2 hE2))
theorem dL_law__2924 : decode code 2924 = .ok (.aload_n 1, 1) := by decide +kernel
theorem dL_law__2925 : decode code 2925 = .ok (.aload_n 0, 1) := by decide +kernel
theorem dL_law__2926 : decode code 2926 = .ok (.iload 4, 2) := by decide +kernel
theorem dL_law__2928 : decode code 2928 = .ok (.iconst 1, 1) := by decide +kernel
theorem dL_law__2929 : decode code 2929 = .ok (.iadd, 1) := by decide +kernel
theorem dL_law__2930 : decode code 2930 = .ok (.iaload, 1) := by decide +kernel
theorem dL_law__2931 : decode code 2931 = .ok (.aload_n 3, 1) := by decide +kernel
theorem dL_law__2932 : decode code 2932 = .ok (.invokestatic 289, 3) := by decide +kernel
theorem dL_law__2935 : decode code 2935 = .ok (.istore 5, 2) := by decide +kernel
theorem dL_law__2937 : decode code 2937 = .ok (.aload_n 2, 1) := by decide +kernel
theorem dL_law__2938 : decode code 2938 = .ok (.aload_n 0, 1) := by decide +kernel
theorem dL_law__2939 : decode code 2939 = .ok (.iload 4, 2) := by decide +kernel
theorem dL_law__2941 : decode code 2941 = .ok (.iconst 1, 1) := by decide +kernel
theorem dL_law__2942 : decode code 2942 = .ok (.iadd, 1) := by decide +kernel
theorem dL_law__2943 : decode code 2943 = .ok (.iaload, 1) := by decide +kernel
theorem dL_law__2944 : decode code 2944 = .ok (.invokevirtual 291, 3) := by decide +kernel
theorem dL_law__2947 : decode code 2947 = .ok (.istore 6, 2) := by decide +kernel
theorem dL_law__2949 : decode code 2949 = .ok (.aload_n 2, 1) := by decide +kernel
theorem dL_law__2950 : decode code 2950 = .ok (.invokevirtual 160, 3) := by decide +kernel
theorem dL_law__2953 : decode code 2953 = .ok (.iload 5, 2) := by decide +kernel
theorem dL_law__2955 : decode code 2955 = .ok (.if_icmp .eq 5, 3) := by decide +kernel
theorem dL_law__2958 : decode code 2958 = .ok (.iconst 0, 1) := by decide +kernel
theorem dL_law__2959 : decode code 2959 = .ok (.ireturn, 1) := by decide +kernel
theorem dL_law__2960 : decode code 2960 = .ok (.iload 5, 2) := by decide +kernel
theorem dL_law__2962 : decode code 2962 = .ok (.ifCond .ne 15, 3) := by decide +kernel
theorem dL_law__2965 : decode code 2965 = .ok (.aload_n 3, 1) := by decide +kernel
theorem dL_law__2966 : decode code 2966 = .ok (.iconst 0, 1) := by decide +kernel
theorem dL_law__2967 : decode code 2967 = .ok (.laload, 1) := by decide +kernel
theorem dL_law__2968 : decode code 2968 = .ok (.iload 6, 2) := by decide +kernel
theorem dL_law__2970 : decode code 2970 = .ok (.i2l, 1) := by decide +kernel
theorem dL_law__2971 : decode code 2971 = .ok (.lcmp, 1) := by decide +kernel
theorem dL_law__2972 : decode code 2972 = .ok (.ifCond .eq 5, 3) := by decide +kernel
theorem dL_law__2975 : decode code 2975 = .ok (.iconst 0, 1) := by decide +kernel
theorem dL_law__2976 : decode code 2976 = .ok (.ireturn, 1) := by decide +kernel
theorem dL_law__2977 : decode code 2977 = .ok (.goto 389, 3) := by decide +kernel
theorem case_41 {INV INV' : Mm → Prop} {g : Gw} {p : Program} {e : Env} {s : State} {m : MethodId} {below : List Frame} {meth : Method} {c : Code} {b L : Nat} {xs : Nat → Int32} (hL : L ≤ 3072) (hG : GF g) (X : CX g (KL p e s m below meth c b) code R_law 8) (S : SCR g (KL p e s m below meth c b) b L xs) {fr lo mc ms fr2 lo2 : Nat} (M : Mm → Int → Nat → Int → Mm → Prop) (hX : ∀ (E : Mm) (x0 : Int), INV E → CTX g yX11_lasts cX11_lasts 2 (some .int) fr lo mc ms K2 false [mR 0, mI x0] (ov E) K2 false (fun r D' => ∃ (v : Int) (E1 : Mm), r = some (mI v) ∧ D' = ov E1 ∧ M E x0 0 v E1) (fun X D' => ∃ (c : Nat) (E1 : Mm), ((c = 1 ∧ X = "java/util/NoSuchElementException")) ∧ D' = ov E1 ∧ M E x0 c 0 E1)) (hM : ∀ (E : Mm) (x0 : Int) (c : Nat) (v : Int) (E1 : Mm), INV E → M E x0 c v E1 → CT g yX12_lasts cX12_lasts 2 (some .int) fr2 lo2 0 0 K2 false [mR 125, mI x0] (ov (if c = 0 then wr E1 813 0 v else E1)) K2 false (fun r D' => ∃ (bb : Int) (E2 : Mm), r = some (mI bb) ∧ D' = ov E2 ∧ INV' E2 ∧ E2 125 0 = (c : Int) ∧ (c = 0 → E2 813 0 = bb))) (hr1 : fr + 2 ≤ room_1.frames ∧ 8 + (4 + 11) + (lo + 21) ≤ room_1.locals) (hr2 : fr2 + 1 ≤ room_1.frames ∧ 8 + (2 + 11) + lo2 ≤ room_1.locals) (hmc : mc ≤ 10) (hms : ms ≤ 100) (E : Mm) (n cells slots : Nat) (hE : INV E) (hn : n + 6 ≤ L) (hc : cells + 10 ≤ 601024) (hs : slots + 100 ≤ 7293034) (hend : ∀ E' : Mm, INV' E' → AT g (KL p e s m below meth c b) K2 false (cells + 10) (slots + 100) 3366 (lawL b n) [] (ov E')) : AT g (KL p e s m below meth c b) K2 false cells slots 2924 (lawL b n) [] (ov E) := by
  refine at_aload_n 2925 X rfl rfl dL_law__2924 rfl ?_
  refine at_xload_n 2926 X rfl rfl dL_law__2925 rfl ?_
  refine at_iload 2928 X rfl dL_law__2926 rfl ?_
  refine at_iconst 2929 X (by decide) dL_law__2928 rfl ?_
  refine at_iadd 2930 X dL_law__2929 rfl ?_
  rw [w32_id (by omega) (by omega)]
  refine at_xint 2931 X S (by omega) (by omega) dL_law__2930 rfl ?_
  refine at_aload_n 2932 X rfl rfl dL_law__2931 rfl ?_
  refine at_callSH (n := 3) 2935 X (lh_lasts hG E _ (M E _) (hX E _ hE)) w_1686 w_120 rfl (by decide +kernel) w_1684 w_1685 rfl rfl (crl ⟨by omega, by omega⟩ (by omega) (by omega)) (Nat.le_of_ble_eq_true rfl) dL_law__2932 rfl ?_
  rintro _ _ ⟨cc, v, E1, rfl, hM1, rfl⟩
  refine at_istore 2937 X dL_law__2935 rfl (by decide) ?_
  refine at_aload_n 2938 X rfl rfl dL_law__2937 rfl ?_
  refine at_xload_n 2939 X rfl rfl dL_law__2938 rfl ?_
  refine at_iload 2941 X rfl dL_law__2939 rfl ?_
  refine at_iconst 2942 X (by decide) dL_law__2941 rfl ?_
  refine at_iadd 2943 X dL_law__2942 rfl ?_
  rw [w32_id (by omega) (by omega)]
  refine at_xint 2944 X S (by omega) (by omega) dL_law__2943 rfl ?_
  refine at_callV 2947 X _ 12 (hM E _ _ _ _ hE hM1) clX12 rfl k_125 mo_X12_lasts w_2237 vo_X12_lasts.1 vo_X12_lasts.2 rfl rfl (crl ⟨by omega, by omega⟩ (by omega) (by omega)) (Nat.le_of_ble_eq_true rfl) dL_law__2944 rfl ?_
  rintro _ _ ⟨bb, E2, rfl, rfl, hE2, hth, hbb⟩
  refine at_istore 2949 X dL_law__2947 rfl (by decide) ?_
  refine at_aload_n 2950 X rfl rfl dL_law__2949 rfl ?_
  refine at_callV 2953 X _ 12 (ct_X12_thrown hG E2) clX12 rfl k_125 mo_X12_thrown w_1945 vo_X12_thrown.1 vo_X12_thrown.2 rfl rfl (crl ⟨Nat.le_of_ble_eq_true rfl, Nat.le_of_ble_eq_true rfl⟩ (by omega) (by omega)) (Nat.le_of_ble_eq_true rfl) dL_law__2950 rfl ?_
  rintro _ _ ⟨rfl, rfl⟩
  rw [hth]
  refine at_iload 2955 X rfl dL_law__2953 rfl ?_
  refine at_icmp_eq 2958 2960 X dL_law__2955 rfl (by decide) (fun _ => ?_) (fun h => absurd rfl h)
  refine at_iload 2962 X rfl dL_law__2960 rfl ?_
  refine at_if_ne 2965 2977 X dL_law__2962 rfl (by decide) (fun h => ?_) (fun h => ?_)
  · refine at_goto 3366 X dL_law__2977 (by decide) ?_
    exact at_sub _ (by exact ⟨rfl, rfl, rfl, rfl, rfl, trivial⟩) (at_widen (by omega) (by omega) (hend E2 hE2))
  · have hc0 : cc = 0 := by omega
    have hbb := hbb hc0
    refine at_aload_n 2966 X rfl rfl dL_law__2965 rfl ?_
    refine at_iconst 2967 X (by decide) dL_law__2966 rfl ?_
    refine m_laload 2968 X k_813 e_813 (by decide) (by decide) dL_law__2967 rfl ?_
    refine at_iload 2970 X rfl dL_law__2968 rfl ?_
    refine at_i2l 2971 X dL_law__2970 rfl ?_
    refine at_lcmp 2972 X dL_law__2971 rfl ?_
    refine at_if_eq 2975 2977 X dL_law__2972 rfl (by decide) (fun _ => ?_) (fun h => absurd (lcmp_eq (by first | exact hbb | (rw [show (0 : Int).toNat = 0 from rfl, hbb]; omega))) h)
    refine at_goto 3366 X dL_law__2977 (by decide) ?_
    exact at_sub _ (by exact ⟨rfl, rfl, rfl, rfl, rfl, trivial⟩) (at_widen (by omega) (by omega) (hend E2 hE2))
theorem dL_law__2980 : decode code 2980 = .ok (.aload_n 1, 1) := by decide +kernel
theorem dL_law__2981 : decode code 2981 = .ok (.invokevirtual 292, 3) := by decide +kernel
theorem dL_law__2984 : decode code 2984 = .ok (.aload_n 2, 1) := by decide +kernel
theorem dL_law__2985 : decode code 2985 = .ok (.invokevirtual 295, 3) := by decide +kernel
theorem dL_law__2988 : decode code 2988 = .ok (.if_icmp .eq 378, 3) := by decide +kernel
theorem dL_law__2991 : decode code 2991 = .ok (.iconst 0, 1) := by decide +kernel
theorem dL_law__2992 : decode code 2992 = .ok (.ireturn, 1) := by decide +kernel
theorem case_42 {INV INV' : Mm → Prop} {g : Gw} {p : Program} {e : Env} {s : State} {m : MethodId} {below : List Frame} {meth : Method} {c : Code} {b L : Nat} {xs : Nat → Int32} (hL : L ≤ 3072) (hG : GF g) (X : CX g (KL p e s m below meth c b) code R_law 8) (S : SCR g (KL p e s m below meth c b) b L xs) {fr lo mc ms fr2 lo2 : Nat} (M : Mm → Int → Mm → Prop) (hX : ∀ (E : Mm), INV E → CT g yX11_heaviest cX11_heaviest 7 (some .int) fr lo mc ms K2 false [mR 0] (ov E) K2 false (fun r D' => ∃ (v : Int) (E1 : Mm), r = some (mI v) ∧ D' = ov E1 ∧ M E  v E1)) (hM : ∀ (E : Mm) (v : Int) (E1 : Mm), INV E → M E  v E1 → CT g yX12_heaviest cX12_heaviest 7 (some .int) fr2 lo2 0 0 K2 false [mR 125] (ov E1) K2 false (fun r D' => ∃ E2 : Mm, r = some (mI v) ∧ D' = ov E2 ∧ INV' E2)) (hr1 : fr + 1 ≤ room_1.frames ∧ 8 + (7 + 11) + lo ≤ room_1.locals) (hr2 : fr2 + 1 ≤ room_1.frames ∧ 8 + (7 + 11) + lo2 ≤ room_1.locals) (hmc : mc ≤ 10) (hms : ms ≤ 100) (E : Mm) (n cells slots : Nat) (hE : INV E) (hn : n + 6 ≤ L) (hc : cells + 10 ≤ 601024) (hs : slots + 100 ≤ 7293034) (hend : ∀ E' : Mm, INV' E' → AT g (KL p e s m below meth c b) K2 false (cells + 10) (slots + 100) 3366 (lawL b n) [] (ov E')) : AT g (KL p e s m below meth c b) K2 false cells slots 2980 (lawL b n) [] (ov E) := by
  refine at_aload_n 2981 X rfl rfl dL_law__2980 rfl ?_
  refine at_callV 2984 X _ 11 (hX E  hE) clX11 rfl k_0 mo_X11_heaviest w_792 vo_X11_heaviest.1 vo_X11_heaviest.2 rfl rfl (crl ⟨by omega, by omega⟩ (by omega) (by omega)) (Nat.le_of_ble_eq_true rfl) dL_law__2981 rfl ?_
  rintro _ _ ⟨v, E1, rfl, rfl, hM1⟩
  refine at_aload_n 2985 X rfl rfl dL_law__2984 rfl ?_
  refine at_callV 2988 X _ 12 (hM E  _ _ hE hM1) clX12 rfl k_125 mo_X12_heaviest w_2394 vo_X12_heaviest.1 vo_X12_heaviest.2 rfl rfl (crl ⟨by omega, by omega⟩ (by omega) (by omega)) (Nat.le_of_ble_eq_true rfl) dL_law__2985 rfl ?_
  rintro _ _ ⟨E2, rfl, rfl, hE2⟩
  refine at_icmp_eq 2991 3366 X dL_law__2988 rfl (by decide) (fun _ => ?_) (fun h => absurd rfl h)
  exact at_sub _ (by exact ⟨rfl, rfl, rfl, rfl, rfl, trivial⟩) (at_widen (by omega) (by omega) (hend E2 hE2))
theorem dL_law__2993 : decode code 2993 = .ok (.aload_n 1, 1) := by decide +kernel
theorem dL_law__2994 : decode code 2994 = .ok (.aload_n 0, 1) := by decide +kernel
theorem dL_law__2995 : decode code 2995 = .ok (.iload 4, 2) := by decide +kernel
theorem dL_law__2997 : decode code 2997 = .ok (.iconst 1, 1) := by decide +kernel
theorem dL_law__2998 : decode code 2998 = .ok (.iadd, 1) := by decide +kernel
theorem dL_law__2999 : decode code 2999 = .ok (.iaload, 1) := by decide +kernel
theorem dL_law__3000 : decode code 3000 = .ok (.aload_n 0, 1) := by decide +kernel
theorem dL_law__3001 : decode code 3001 = .ok (.iload 4, 2) := by decide +kernel
theorem dL_law__3003 : decode code 3003 = .ok (.iconst 2, 1) := by decide +kernel
theorem dL_law__3004 : decode code 3004 = .ok (.iadd, 1) := by decide +kernel
theorem dL_law__3005 : decode code 3005 = .ok (.iaload, 1) := by decide +kernel
theorem dL_law__3006 : decode code 3006 = .ok (.aload_n 3, 1) := by decide +kernel
theorem dL_law__3007 : decode code 3007 = .ok (.invokestatic 296, 3) := by decide +kernel
theorem dL_law__3010 : decode code 3010 = .ok (.istore 5, 2) := by decide +kernel
theorem dL_law__3012 : decode code 3012 = .ok (.aload_n 2, 1) := by decide +kernel
theorem dL_law__3013 : decode code 3013 = .ok (.aload_n 0, 1) := by decide +kernel
theorem dL_law__3014 : decode code 3014 = .ok (.iload 4, 2) := by decide +kernel
theorem dL_law__3016 : decode code 3016 = .ok (.iconst 1, 1) := by decide +kernel
theorem dL_law__3017 : decode code 3017 = .ok (.iadd, 1) := by decide +kernel
theorem dL_law__3018 : decode code 3018 = .ok (.iaload, 1) := by decide +kernel
theorem dL_law__3019 : decode code 3019 = .ok (.aload_n 0, 1) := by decide +kernel
theorem dL_law__3020 : decode code 3020 = .ok (.iload 4, 2) := by decide +kernel
theorem dL_law__3022 : decode code 3022 = .ok (.iconst 2, 1) := by decide +kernel
theorem dL_law__3023 : decode code 3023 = .ok (.iadd, 1) := by decide +kernel
theorem dL_law__3024 : decode code 3024 = .ok (.iaload, 1) := by decide +kernel
theorem dL_law__3025 : decode code 3025 = .ok (.invokevirtual 298, 3) := by decide +kernel
theorem dL_law__3028 : decode code 3028 = .ok (.istore 6, 2) := by decide +kernel
theorem dL_law__3030 : decode code 3030 = .ok (.aload_n 2, 1) := by decide +kernel
theorem dL_law__3031 : decode code 3031 = .ok (.invokevirtual 160, 3) := by decide +kernel
theorem dL_law__3034 : decode code 3034 = .ok (.iload 5, 2) := by decide +kernel
theorem dL_law__3036 : decode code 3036 = .ok (.if_icmp .eq 5, 3) := by decide +kernel
theorem dL_law__3039 : decode code 3039 = .ok (.iconst 0, 1) := by decide +kernel
theorem dL_law__3040 : decode code 3040 = .ok (.ireturn, 1) := by decide +kernel
theorem dL_law__3041 : decode code 3041 = .ok (.iload 5, 2) := by decide +kernel
theorem dL_law__3043 : decode code 3043 = .ok (.ifCond .ne 15, 3) := by decide +kernel
theorem dL_law__3046 : decode code 3046 = .ok (.aload_n 3, 1) := by decide +kernel
theorem dL_law__3047 : decode code 3047 = .ok (.iconst 0, 1) := by decide +kernel
theorem dL_law__3048 : decode code 3048 = .ok (.laload, 1) := by decide +kernel
theorem dL_law__3049 : decode code 3049 = .ok (.iload 6, 2) := by decide +kernel
theorem dL_law__3051 : decode code 3051 = .ok (.i2l, 1) := by decide +kernel
theorem dL_law__3052 : decode code 3052 = .ok (.lcmp, 1) := by decide +kernel
theorem dL_law__3053 : decode code 3053 = .ok (.ifCond .eq 5, 3) := by decide +kernel
theorem dL_law__3056 : decode code 3056 = .ok (.iconst 0, 1) := by decide +kernel
theorem dL_law__3057 : decode code 3057 = .ok (.ireturn, 1) := by decide +kernel
theorem dL_law__3058 : decode code 3058 = .ok (.goto 308, 3) := by decide +kernel
theorem case_43 {INV INV' : Mm → Prop} {g : Gw} {p : Program} {e : Env} {s : State} {m : MethodId} {below : List Frame} {meth : Method} {c : Code} {b L : Nat} {xs : Nat → Int32} (hL : L ≤ 3072) (hG : GF g) (X : CX g (KL p e s m below meth c b) code R_law 8) (S : SCR g (KL p e s m below meth c b) b L xs) {fr lo mc ms fr2 lo2 : Nat} (M : Mm → Int → Int → Nat → Int → Mm → Prop) (hX : ∀ (E : Mm) (x0 x1 : Int), INV E → CTX g yX11_bare cX11_bare 6 (some .int) fr lo mc ms K2 false [mR 0, mI x0, mI x1] (ov E) K2 false (fun r D' => ∃ (v : Int) (E1 : Mm), r = some (mI v) ∧ D' = ov E1 ∧ M E x0 x1 0 v E1) (fun X D' => ∃ (c : Nat) (E1 : Mm), ((c = 1 ∧ X = "java/lang/IllegalArgumentException")) ∧ D' = ov E1 ∧ M E x0 x1 c 0 E1)) (hM : ∀ (E : Mm) (x0 x1 : Int) (c : Nat) (v : Int) (E1 : Mm), INV E → M E x0 x1 c v E1 → CT g yX12_bare cX12_bare 7 (some .int) fr2 lo2 0 0 K2 false [mR 125, mI x0, mI x1] (ov (if c = 0 then wr E1 813 0 v else E1)) K2 false (fun r D' => ∃ (bb : Int) (E2 : Mm), r = some (mI bb) ∧ D' = ov E2 ∧ INV' E2 ∧ E2 125 0 = (c : Int) ∧ (c = 0 → E2 813 0 = bb))) (hr1 : fr + 2 ≤ room_1.frames ∧ 8 + (5 + 11) + (lo + 25) ≤ room_1.locals) (hr2 : fr2 + 1 ≤ room_1.frames ∧ 8 + (7 + 11) + lo2 ≤ room_1.locals) (hmc : mc ≤ 10) (hms : ms ≤ 100) (E : Mm) (n cells slots : Nat) (hE : INV E) (hn : n + 6 ≤ L) (hc : cells + 10 ≤ 601024) (hs : slots + 100 ≤ 7293034) (hend : ∀ E' : Mm, INV' E' → AT g (KL p e s m below meth c b) K2 false (cells + 10) (slots + 100) 3366 (lawL b n) [] (ov E')) : AT g (KL p e s m below meth c b) K2 false cells slots 2993 (lawL b n) [] (ov E) := by
  refine at_aload_n 2994 X rfl rfl dL_law__2993 rfl ?_
  refine at_xload_n 2995 X rfl rfl dL_law__2994 rfl ?_
  refine at_iload 2997 X rfl dL_law__2995 rfl ?_
  refine at_iconst 2998 X (by decide) dL_law__2997 rfl ?_
  refine at_iadd 2999 X dL_law__2998 rfl ?_
  rw [w32_id (by omega) (by omega)]
  refine at_xint 3000 X S (by omega) (by omega) dL_law__2999 rfl ?_
  refine at_xload_n 3001 X rfl rfl dL_law__3000 rfl ?_
  refine at_iload 3003 X rfl dL_law__3001 rfl ?_
  refine at_iconst 3004 X (by decide) dL_law__3003 rfl ?_
  refine at_iadd 3005 X dL_law__3004 rfl ?_
  rw [w32_id (by omega) (by omega)]
  refine at_xint 3006 X S (by omega) (by omega) dL_law__3005 rfl ?_
  refine at_aload_n 3007 X rfl rfl dL_law__3006 rfl ?_
  refine at_callSH (n := 4) 3010 X (lh_bare hG E _ _ (M E _ _) (hX E _ _ hE)) w_1693 w_120 rfl (by decide +kernel) w_1691 w_1692 rfl rfl (crl ⟨by omega, by omega⟩ (by omega) (by omega)) (Nat.le_of_ble_eq_true rfl) dL_law__3007 rfl ?_
  rintro _ _ ⟨cc, v, E1, rfl, hM1, rfl⟩
  refine at_istore 3012 X dL_law__3010 rfl (by decide) ?_
  refine at_aload_n 3013 X rfl rfl dL_law__3012 rfl ?_
  refine at_xload_n 3014 X rfl rfl dL_law__3013 rfl ?_
  refine at_iload 3016 X rfl dL_law__3014 rfl ?_
  refine at_iconst 3017 X (by decide) dL_law__3016 rfl ?_
  refine at_iadd 3018 X dL_law__3017 rfl ?_
  rw [w32_id (by omega) (by omega)]
  refine at_xint 3019 X S (by omega) (by omega) dL_law__3018 rfl ?_
  refine at_xload_n 3020 X rfl rfl dL_law__3019 rfl ?_
  refine at_iload 3022 X rfl dL_law__3020 rfl ?_
  refine at_iconst 3023 X (by decide) dL_law__3022 rfl ?_
  refine at_iadd 3024 X dL_law__3023 rfl ?_
  rw [w32_id (by omega) (by omega)]
  refine at_xint 3025 X S (by omega) (by omega) dL_law__3024 rfl ?_
  refine at_callV 3028 X _ 12 (hM E _ _ _ _ _ hE hM1) clX12 rfl k_125 mo_X12_bare w_2398 vo_X12_bare.1 vo_X12_bare.2 rfl rfl (crl ⟨by omega, by omega⟩ (by omega) (by omega)) (Nat.le_of_ble_eq_true rfl) dL_law__3025 rfl ?_
  rintro _ _ ⟨bb, E2, rfl, rfl, hE2, hth, hbb⟩
  refine at_istore 3030 X dL_law__3028 rfl (by decide) ?_
  refine at_aload_n 3031 X rfl rfl dL_law__3030 rfl ?_
  refine at_callV 3034 X _ 12 (ct_X12_thrown hG E2) clX12 rfl k_125 mo_X12_thrown w_1945 vo_X12_thrown.1 vo_X12_thrown.2 rfl rfl (crl ⟨Nat.le_of_ble_eq_true rfl, Nat.le_of_ble_eq_true rfl⟩ (by omega) (by omega)) (Nat.le_of_ble_eq_true rfl) dL_law__3031 rfl ?_
  rintro _ _ ⟨rfl, rfl⟩
  rw [hth]
  refine at_iload 3036 X rfl dL_law__3034 rfl ?_
  refine at_icmp_eq 3039 3041 X dL_law__3036 rfl (by decide) (fun _ => ?_) (fun h => absurd rfl h)
  refine at_iload 3043 X rfl dL_law__3041 rfl ?_
  refine at_if_ne 3046 3058 X dL_law__3043 rfl (by decide) (fun h => ?_) (fun h => ?_)
  · refine at_goto 3366 X dL_law__3058 (by decide) ?_
    exact at_sub _ (by exact ⟨rfl, rfl, rfl, rfl, rfl, trivial⟩) (at_widen (by omega) (by omega) (hend E2 hE2))
  · have hc0 : cc = 0 := by omega
    have hbb := hbb hc0
    refine at_aload_n 3047 X rfl rfl dL_law__3046 rfl ?_
    refine at_iconst 3048 X (by decide) dL_law__3047 rfl ?_
    refine m_laload 3049 X k_813 e_813 (by decide) (by decide) dL_law__3048 rfl ?_
    refine at_iload 3051 X rfl dL_law__3049 rfl ?_
    refine at_i2l 3052 X dL_law__3051 rfl ?_
    refine at_lcmp 3053 X dL_law__3052 rfl ?_
    refine at_if_eq 3056 3058 X dL_law__3053 rfl (by decide) (fun _ => ?_) (fun h => absurd (lcmp_eq (by first | exact hbb | (rw [show (0 : Int).toNat = 0 from rfl, hbb]; omega))) h)
    refine at_goto 3366 X dL_law__3058 (by decide) ?_
    exact at_sub _ (by exact ⟨rfl, rfl, rfl, rfl, rfl, trivial⟩) (at_widen (by omega) (by omega) (hend E2 hE2))
theorem dL_law__3061 : decode code 3061 = .ok (.aload_n 1, 1) := by decide +kernel
theorem dL_law__3062 : decode code 3062 = .ok (.aload_n 0, 1) := by decide +kernel
theorem dL_law__3063 : decode code 3063 = .ok (.iload 4, 2) := by decide +kernel
theorem dL_law__3065 : decode code 3065 = .ok (.iconst 1, 1) := by decide +kernel
theorem dL_law__3066 : decode code 3066 = .ok (.iadd, 1) := by decide +kernel
theorem dL_law__3067 : decode code 3067 = .ok (.iaload, 1) := by decide +kernel
theorem dL_law__3068 : decode code 3068 = .ok (.aload_n 0, 1) := by decide +kernel
theorem dL_law__3069 : decode code 3069 = .ok (.iload 4, 2) := by decide +kernel
theorem dL_law__3071 : decode code 3071 = .ok (.iconst 2, 1) := by decide +kernel
theorem dL_law__3072 : decode code 3072 = .ok (.iadd, 1) := by decide +kernel
theorem dL_law__3073 : decode code 3073 = .ok (.iaload, 1) := by decide +kernel
theorem dL_law__3074 : decode code 3074 = .ok (.aload_n 3, 1) := by decide +kernel
theorem dL_law__3075 : decode code 3075 = .ok (.invokestatic 299, 3) := by decide +kernel
theorem dL_law__3078 : decode code 3078 = .ok (.istore 5, 2) := by decide +kernel
theorem dL_law__3080 : decode code 3080 = .ok (.aload_n 2, 1) := by decide +kernel
theorem dL_law__3081 : decode code 3081 = .ok (.aload_n 0, 1) := by decide +kernel
theorem dL_law__3082 : decode code 3082 = .ok (.iload 4, 2) := by decide +kernel
theorem dL_law__3084 : decode code 3084 = .ok (.iconst 1, 1) := by decide +kernel
theorem dL_law__3085 : decode code 3085 = .ok (.iadd, 1) := by decide +kernel
theorem dL_law__3086 : decode code 3086 = .ok (.iaload, 1) := by decide +kernel
theorem dL_law__3087 : decode code 3087 = .ok (.aload_n 0, 1) := by decide +kernel
theorem dL_law__3088 : decode code 3088 = .ok (.iload 4, 2) := by decide +kernel
theorem dL_law__3090 : decode code 3090 = .ok (.iconst 2, 1) := by decide +kernel
theorem dL_law__3091 : decode code 3091 = .ok (.iadd, 1) := by decide +kernel
theorem dL_law__3092 : decode code 3092 = .ok (.iaload, 1) := by decide +kernel
theorem dL_law__3093 : decode code 3093 = .ok (.invokevirtual 301, 3) := by decide +kernel
theorem dL_law__3096 : decode code 3096 = .ok (.istore 6, 2) := by decide +kernel
theorem dL_law__3098 : decode code 3098 = .ok (.aload_n 2, 1) := by decide +kernel
theorem dL_law__3099 : decode code 3099 = .ok (.invokevirtual 160, 3) := by decide +kernel
theorem dL_law__3102 : decode code 3102 = .ok (.iload 5, 2) := by decide +kernel
theorem dL_law__3104 : decode code 3104 = .ok (.if_icmp .eq 5, 3) := by decide +kernel
theorem dL_law__3107 : decode code 3107 = .ok (.iconst 0, 1) := by decide +kernel
theorem dL_law__3108 : decode code 3108 = .ok (.ireturn, 1) := by decide +kernel
theorem dL_law__3109 : decode code 3109 = .ok (.iload 5, 2) := by decide +kernel
theorem dL_law__3111 : decode code 3111 = .ok (.ifCond .ne 15, 3) := by decide +kernel
theorem dL_law__3114 : decode code 3114 = .ok (.aload_n 3, 1) := by decide +kernel
theorem dL_law__3115 : decode code 3115 = .ok (.iconst 0, 1) := by decide +kernel
theorem dL_law__3116 : decode code 3116 = .ok (.laload, 1) := by decide +kernel
theorem dL_law__3117 : decode code 3117 = .ok (.iload 6, 2) := by decide +kernel
theorem dL_law__3119 : decode code 3119 = .ok (.i2l, 1) := by decide +kernel
theorem dL_law__3120 : decode code 3120 = .ok (.lcmp, 1) := by decide +kernel
theorem dL_law__3121 : decode code 3121 = .ok (.ifCond .eq 5, 3) := by decide +kernel
theorem dL_law__3124 : decode code 3124 = .ok (.iconst 0, 1) := by decide +kernel
theorem dL_law__3125 : decode code 3125 = .ok (.ireturn, 1) := by decide +kernel
theorem dL_law__3126 : decode code 3126 = .ok (.goto 240, 3) := by decide +kernel
theorem case_44 {INV INV' : Mm → Prop} {g : Gw} {p : Program} {e : Env} {s : State} {m : MethodId} {below : List Frame} {meth : Method} {c : Code} {b L : Nat} {xs : Nat → Int32} (hL : L ≤ 3072) (hG : GF g) (X : CX g (KL p e s m below meth c b) code R_law 8) (S : SCR g (KL p e s m below meth c b) b L xs) {fr lo mc ms fr2 lo2 : Nat} (M : Mm → Int → Int → Nat → Int → Mm → Prop) (hX : ∀ (E : Mm) (x0 x1 : Int), INV E → CTX g yX11_build cX11_build 4 (some .int) fr lo mc ms K2 false [mR 0, mI x0, mI x1] (ov E) K2 false (fun r D' => ∃ (v : Int) (E1 : Mm), r = some (mI v) ∧ D' = ov E1 ∧ M E x0 x1 0 v E1) (fun X D' => ∃ (c : Nat) (E1 : Mm), ((c = 1 ∧ X = "java/util/NoSuchElementException") ∨ (c = 2 ∧ X = "java/lang/IllegalArgumentException")) ∧ D' = ov E1 ∧ M E x0 x1 c 0 E1)) (hM : ∀ (E : Mm) (x0 x1 : Int) (c : Nat) (v : Int) (E1 : Mm), INV E → M E x0 x1 c v E1 → CT g yX12_build cX12_build 4 (some .int) fr2 lo2 0 0 K2 false [mR 125, mI x0, mI x1] (ov (if c = 0 then wr E1 813 0 v else E1)) K2 false (fun r D' => ∃ (bb : Int) (E2 : Mm), r = some (mI bb) ∧ D' = ov E2 ∧ INV' E2 ∧ E2 125 0 = (c : Int) ∧ (c = 0 → E2 813 0 = bb))) (hr1 : fr + 2 ≤ room_1.frames ∧ 8 + (5 + 11) + (lo + 23) ≤ room_1.locals) (hr2 : fr2 + 1 ≤ room_1.frames ∧ 8 + (4 + 11) + lo2 ≤ room_1.locals) (hmc : mc ≤ 10) (hms : ms ≤ 100) (E : Mm) (n cells slots : Nat) (hE : INV E) (hn : n + 6 ≤ L) (hc : cells + 10 ≤ 601024) (hs : slots + 100 ≤ 7293034) (hend : ∀ E' : Mm, INV' E' → AT g (KL p e s m below meth c b) K2 false (cells + 10) (slots + 100) 3366 (lawL b n) [] (ov E')) : AT g (KL p e s m below meth c b) K2 false cells slots 3061 (lawL b n) [] (ov E) := by
  refine at_aload_n 3062 X rfl rfl dL_law__3061 rfl ?_
  refine at_xload_n 3063 X rfl rfl dL_law__3062 rfl ?_
  refine at_iload 3065 X rfl dL_law__3063 rfl ?_
  refine at_iconst 3066 X (by decide) dL_law__3065 rfl ?_
  refine at_iadd 3067 X dL_law__3066 rfl ?_
  rw [w32_id (by omega) (by omega)]
  refine at_xint 3068 X S (by omega) (by omega) dL_law__3067 rfl ?_
  refine at_xload_n 3069 X rfl rfl dL_law__3068 rfl ?_
  refine at_iload 3071 X rfl dL_law__3069 rfl ?_
  refine at_iconst 3072 X (by decide) dL_law__3071 rfl ?_
  refine at_iadd 3073 X dL_law__3072 rfl ?_
  rw [w32_id (by omega) (by omega)]
  refine at_xint 3074 X S (by omega) (by omega) dL_law__3073 rfl ?_
  refine at_aload_n 3075 X rfl rfl dL_law__3074 rfl ?_
  refine at_callSH (n := 4) 3078 X (lh_build hG E _ _ (M E _ _) (hX E _ _ hE)) w_1700 w_120 rfl (by decide +kernel) w_1698 w_1699 rfl rfl (crl ⟨by omega, by omega⟩ (by omega) (by omega)) (Nat.le_of_ble_eq_true rfl) dL_law__3075 rfl ?_
  rintro _ _ ⟨cc, v, E1, rfl, hM1, rfl⟩
  refine at_istore 3080 X dL_law__3078 rfl (by decide) ?_
  refine at_aload_n 3081 X rfl rfl dL_law__3080 rfl ?_
  refine at_xload_n 3082 X rfl rfl dL_law__3081 rfl ?_
  refine at_iload 3084 X rfl dL_law__3082 rfl ?_
  refine at_iconst 3085 X (by decide) dL_law__3084 rfl ?_
  refine at_iadd 3086 X dL_law__3085 rfl ?_
  rw [w32_id (by omega) (by omega)]
  refine at_xint 3087 X S (by omega) (by omega) dL_law__3086 rfl ?_
  refine at_xload_n 3088 X rfl rfl dL_law__3087 rfl ?_
  refine at_iload 3090 X rfl dL_law__3088 rfl ?_
  refine at_iconst 3091 X (by decide) dL_law__3090 rfl ?_
  refine at_iadd 3092 X dL_law__3091 rfl ?_
  rw [w32_id (by omega) (by omega)]
  refine at_xint 3093 X S (by omega) (by omega) dL_law__3092 rfl ?_
  refine at_callV 3096 X _ 12 (hM E _ _ _ _ _ hE hM1) clX12 rfl k_125 mo_X12_build w_2402 vo_X12_build.1 vo_X12_build.2 rfl rfl (crl ⟨by omega, by omega⟩ (by omega) (by omega)) (Nat.le_of_ble_eq_true rfl) dL_law__3093 rfl ?_
  rintro _ _ ⟨bb, E2, rfl, rfl, hE2, hth, hbb⟩
  refine at_istore 3098 X dL_law__3096 rfl (by decide) ?_
  refine at_aload_n 3099 X rfl rfl dL_law__3098 rfl ?_
  refine at_callV 3102 X _ 12 (ct_X12_thrown hG E2) clX12 rfl k_125 mo_X12_thrown w_1945 vo_X12_thrown.1 vo_X12_thrown.2 rfl rfl (crl ⟨Nat.le_of_ble_eq_true rfl, Nat.le_of_ble_eq_true rfl⟩ (by omega) (by omega)) (Nat.le_of_ble_eq_true rfl) dL_law__3099 rfl ?_
  rintro _ _ ⟨rfl, rfl⟩
  rw [hth]
  refine at_iload 3104 X rfl dL_law__3102 rfl ?_
  refine at_icmp_eq 3107 3109 X dL_law__3104 rfl (by decide) (fun _ => ?_) (fun h => absurd rfl h)
  refine at_iload 3111 X rfl dL_law__3109 rfl ?_
  refine at_if_ne 3114 3126 X dL_law__3111 rfl (by decide) (fun h => ?_) (fun h => ?_)
  · refine at_goto 3366 X dL_law__3126 (by decide) ?_
    exact at_sub _ (by exact ⟨rfl, rfl, rfl, rfl, rfl, trivial⟩) (at_widen (by omega) (by omega) (hend E2 hE2))
  · have hc0 : cc = 0 := by omega
    have hbb := hbb hc0
    refine at_aload_n 3115 X rfl rfl dL_law__3114 rfl ?_
    refine at_iconst 3116 X (by decide) dL_law__3115 rfl ?_
    refine m_laload 3117 X k_813 e_813 (by decide) (by decide) dL_law__3116 rfl ?_
    refine at_iload 3119 X rfl dL_law__3117 rfl ?_
    refine at_i2l 3120 X dL_law__3119 rfl ?_
    refine at_lcmp 3121 X dL_law__3120 rfl ?_
    refine at_if_eq 3124 3126 X dL_law__3121 rfl (by decide) (fun _ => ?_) (fun h => absurd (lcmp_eq (by first | exact hbb | (rw [show (0 : Int).toNat = 0 from rfl, hbb]; omega))) h)
    refine at_goto 3366 X dL_law__3126 (by decide) ?_
    exact at_sub _ (by exact ⟨rfl, rfl, rfl, rfl, rfl, trivial⟩) (at_widen (by omega) (by omega) (hend E2 hE2))
theorem dL_law__3129 : decode code 3129 = .ok (.aload_n 1, 1) := by decide +kernel
theorem dL_law__3130 : decode code 3130 = .ok (.aload_n 0, 1) := by decide +kernel
theorem dL_law__3131 : decode code 3131 = .ok (.iload 4, 2) := by decide +kernel
theorem dL_law__3133 : decode code 3133 = .ok (.iconst 1, 1) := by decide +kernel
theorem dL_law__3134 : decode code 3134 = .ok (.iadd, 1) := by decide +kernel
theorem dL_law__3135 : decode code 3135 = .ok (.iaload, 1) := by decide +kernel
theorem dL_law__3136 : decode code 3136 = .ok (.aload_n 0, 1) := by decide +kernel
theorem dL_law__3137 : decode code 3137 = .ok (.iload 4, 2) := by decide +kernel
theorem dL_law__3139 : decode code 3139 = .ok (.iconst 2, 1) := by decide +kernel
theorem dL_law__3140 : decode code 3140 = .ok (.iadd, 1) := by decide +kernel
theorem dL_law__3141 : decode code 3141 = .ok (.iaload, 1) := by decide +kernel
theorem dL_law__3142 : decode code 3142 = .ok (.aload_n 3, 1) := by decide +kernel
theorem dL_law__3143 : decode code 3143 = .ok (.invokestatic 302, 3) := by decide +kernel
theorem dL_law__3146 : decode code 3146 = .ok (.istore 5, 2) := by decide +kernel
theorem dL_law__3148 : decode code 3148 = .ok (.aload_n 2, 1) := by decide +kernel
theorem dL_law__3149 : decode code 3149 = .ok (.aload_n 0, 1) := by decide +kernel
theorem dL_law__3150 : decode code 3150 = .ok (.iload 4, 2) := by decide +kernel
theorem dL_law__3152 : decode code 3152 = .ok (.iconst 1, 1) := by decide +kernel
theorem dL_law__3153 : decode code 3153 = .ok (.iadd, 1) := by decide +kernel
theorem dL_law__3154 : decode code 3154 = .ok (.iaload, 1) := by decide +kernel
theorem dL_law__3155 : decode code 3155 = .ok (.aload_n 0, 1) := by decide +kernel
theorem dL_law__3156 : decode code 3156 = .ok (.iload 4, 2) := by decide +kernel
theorem dL_law__3158 : decode code 3158 = .ok (.iconst 2, 1) := by decide +kernel
theorem dL_law__3159 : decode code 3159 = .ok (.iadd, 1) := by decide +kernel
theorem dL_law__3160 : decode code 3160 = .ok (.iaload, 1) := by decide +kernel
theorem dL_law__3161 : decode code 3161 = .ok (.invokevirtual 304, 3) := by decide +kernel
theorem dL_law__3164 : decode code 3164 = .ok (.istore 6, 2) := by decide +kernel
theorem dL_law__3166 : decode code 3166 = .ok (.aload_n 2, 1) := by decide +kernel
theorem dL_law__3167 : decode code 3167 = .ok (.invokevirtual 160, 3) := by decide +kernel
theorem dL_law__3170 : decode code 3170 = .ok (.iload 5, 2) := by decide +kernel
theorem dL_law__3172 : decode code 3172 = .ok (.if_icmp .eq 5, 3) := by decide +kernel
theorem dL_law__3175 : decode code 3175 = .ok (.iconst 0, 1) := by decide +kernel
theorem dL_law__3176 : decode code 3176 = .ok (.ireturn, 1) := by decide +kernel
theorem dL_law__3177 : decode code 3177 = .ok (.iload 5, 2) := by decide +kernel
theorem dL_law__3179 : decode code 3179 = .ok (.ifCond .ne 15, 3) := by decide +kernel
theorem dL_law__3182 : decode code 3182 = .ok (.aload_n 3, 1) := by decide +kernel
theorem dL_law__3183 : decode code 3183 = .ok (.iconst 0, 1) := by decide +kernel
theorem dL_law__3184 : decode code 3184 = .ok (.laload, 1) := by decide +kernel
theorem dL_law__3185 : decode code 3185 = .ok (.iload 6, 2) := by decide +kernel
theorem dL_law__3187 : decode code 3187 = .ok (.i2l, 1) := by decide +kernel
theorem dL_law__3188 : decode code 3188 = .ok (.lcmp, 1) := by decide +kernel
theorem dL_law__3189 : decode code 3189 = .ok (.ifCond .eq 5, 3) := by decide +kernel
theorem dL_law__3192 : decode code 3192 = .ok (.iconst 0, 1) := by decide +kernel
theorem dL_law__3193 : decode code 3193 = .ok (.ireturn, 1) := by decide +kernel
theorem dL_law__3194 : decode code 3194 = .ok (.goto 172, 3) := by decide +kernel
theorem case_45 {INV INV' : Mm → Prop} {g : Gw} {p : Program} {e : Env} {s : State} {m : MethodId} {below : List Frame} {meth : Method} {c : Code} {b L : Nat} {xs : Nat → Int32} (hL : L ≤ 3072) (hG : GF g) (X : CX g (KL p e s m below meth c b) code R_law 8) (S : SCR g (KL p e s m below meth c b) b L xs) {fr lo mc ms fr2 lo2 : Nat} (M : Mm → Int → Int → Nat → Int → Mm → Prop) (hX : ∀ (E : Mm) (x0 x1 : Int), INV E → CTX g yX11_lay cX11_lay 4 (some .int) fr lo mc ms K2 false [mR 0, mI x0, mI x1] (ov E) K2 false (fun r D' => ∃ (v : Int) (E1 : Mm), r = some (mI v) ∧ D' = ov E1 ∧ M E x0 x1 0 v E1) (fun X D' => ∃ (c : Nat) (E1 : Mm), ((c = 1 ∧ X = "java/util/NoSuchElementException") ∨ (c = 2 ∧ X = "java/lang/IllegalArgumentException")) ∧ D' = ov E1 ∧ M E x0 x1 c 0 E1)) (hM : ∀ (E : Mm) (x0 x1 : Int) (c : Nat) (v : Int) (E1 : Mm), INV E → M E x0 x1 c v E1 → CT g yX12_lay cX12_lay 4 (some .int) fr2 lo2 0 0 K2 false [mR 125, mI x0, mI x1] (ov (if c = 0 then wr E1 813 0 v else E1)) K2 false (fun r D' => ∃ (bb : Int) (E2 : Mm), r = some (mI bb) ∧ D' = ov E2 ∧ INV' E2 ∧ E2 125 0 = (c : Int) ∧ (c = 0 → E2 813 0 = bb))) (hr1 : fr + 2 ≤ room_1.frames ∧ 8 + (5 + 11) + (lo + 23) ≤ room_1.locals) (hr2 : fr2 + 1 ≤ room_1.frames ∧ 8 + (4 + 11) + lo2 ≤ room_1.locals) (hmc : mc ≤ 10) (hms : ms ≤ 100) (E : Mm) (n cells slots : Nat) (hE : INV E) (hn : n + 6 ≤ L) (hc : cells + 10 ≤ 601024) (hs : slots + 100 ≤ 7293034) (hend : ∀ E' : Mm, INV' E' → AT g (KL p e s m below meth c b) K2 false (cells + 10) (slots + 100) 3366 (lawL b n) [] (ov E')) : AT g (KL p e s m below meth c b) K2 false cells slots 3129 (lawL b n) [] (ov E) := by
  refine at_aload_n 3130 X rfl rfl dL_law__3129 rfl ?_
  refine at_xload_n 3131 X rfl rfl dL_law__3130 rfl ?_
  refine at_iload 3133 X rfl dL_law__3131 rfl ?_
  refine at_iconst 3134 X (by decide) dL_law__3133 rfl ?_
  refine at_iadd 3135 X dL_law__3134 rfl ?_
  rw [w32_id (by omega) (by omega)]
  refine at_xint 3136 X S (by omega) (by omega) dL_law__3135 rfl ?_
  refine at_xload_n 3137 X rfl rfl dL_law__3136 rfl ?_
  refine at_iload 3139 X rfl dL_law__3137 rfl ?_
  refine at_iconst 3140 X (by decide) dL_law__3139 rfl ?_
  refine at_iadd 3141 X dL_law__3140 rfl ?_
  rw [w32_id (by omega) (by omega)]
  refine at_xint 3142 X S (by omega) (by omega) dL_law__3141 rfl ?_
  refine at_aload_n 3143 X rfl rfl dL_law__3142 rfl ?_
  refine at_callSH (n := 4) 3146 X (lh_lay hG E _ _ (M E _ _) (hX E _ _ hE)) w_1711 w_120 rfl (by decide +kernel) w_1709 w_1710 rfl rfl (crl ⟨by omega, by omega⟩ (by omega) (by omega)) (Nat.le_of_ble_eq_true rfl) dL_law__3143 rfl ?_
  rintro _ _ ⟨cc, v, E1, rfl, hM1, rfl⟩
  refine at_istore 3148 X dL_law__3146 rfl (by decide) ?_
  refine at_aload_n 3149 X rfl rfl dL_law__3148 rfl ?_
  refine at_xload_n 3150 X rfl rfl dL_law__3149 rfl ?_
  refine at_iload 3152 X rfl dL_law__3150 rfl ?_
  refine at_iconst 3153 X (by decide) dL_law__3152 rfl ?_
  refine at_iadd 3154 X dL_law__3153 rfl ?_
  rw [w32_id (by omega) (by omega)]
  refine at_xint 3155 X S (by omega) (by omega) dL_law__3154 rfl ?_
  refine at_xload_n 3156 X rfl rfl dL_law__3155 rfl ?_
  refine at_iload 3158 X rfl dL_law__3156 rfl ?_
  refine at_iconst 3159 X (by decide) dL_law__3158 rfl ?_
  refine at_iadd 3160 X dL_law__3159 rfl ?_
  rw [w32_id (by omega) (by omega)]
  refine at_xint 3161 X S (by omega) (by omega) dL_law__3160 rfl ?_
  refine at_callV 3164 X _ 12 (hM E _ _ _ _ _ hE hM1) clX12 rfl k_125 mo_X12_lay w_2418 vo_X12_lay.1 vo_X12_lay.2 rfl rfl (crl ⟨by omega, by omega⟩ (by omega) (by omega)) (Nat.le_of_ble_eq_true rfl) dL_law__3161 rfl ?_
  rintro _ _ ⟨bb, E2, rfl, rfl, hE2, hth, hbb⟩
  refine at_istore 3166 X dL_law__3164 rfl (by decide) ?_
  refine at_aload_n 3167 X rfl rfl dL_law__3166 rfl ?_
  refine at_callV 3170 X _ 12 (ct_X12_thrown hG E2) clX12 rfl k_125 mo_X12_thrown w_1945 vo_X12_thrown.1 vo_X12_thrown.2 rfl rfl (crl ⟨Nat.le_of_ble_eq_true rfl, Nat.le_of_ble_eq_true rfl⟩ (by omega) (by omega)) (Nat.le_of_ble_eq_true rfl) dL_law__3167 rfl ?_
  rintro _ _ ⟨rfl, rfl⟩
  rw [hth]
  refine at_iload 3172 X rfl dL_law__3170 rfl ?_
  refine at_icmp_eq 3175 3177 X dL_law__3172 rfl (by decide) (fun _ => ?_) (fun h => absurd rfl h)
  refine at_iload 3179 X rfl dL_law__3177 rfl ?_
  refine at_if_ne 3182 3194 X dL_law__3179 rfl (by decide) (fun h => ?_) (fun h => ?_)
  · refine at_goto 3366 X dL_law__3194 (by decide) ?_
    exact at_sub _ (by exact ⟨rfl, rfl, rfl, rfl, rfl, trivial⟩) (at_widen (by omega) (by omega) (hend E2 hE2))
  · have hc0 : cc = 0 := by omega
    have hbb := hbb hc0
    refine at_aload_n 3183 X rfl rfl dL_law__3182 rfl ?_
    refine at_iconst 3184 X (by decide) dL_law__3183 rfl ?_
    refine m_laload 3185 X k_813 e_813 (by decide) (by decide) dL_law__3184 rfl ?_
    refine at_iload 3187 X rfl dL_law__3185 rfl ?_
    refine at_i2l 3188 X dL_law__3187 rfl ?_
    refine at_lcmp 3189 X dL_law__3188 rfl ?_
    refine at_if_eq 3192 3194 X dL_law__3189 rfl (by decide) (fun _ => ?_) (fun h => absurd (lcmp_eq (by first | exact hbb | (rw [show (0 : Int).toNat = 0 from rfl, hbb]; omega))) h)
    refine at_goto 3366 X dL_law__3194 (by decide) ?_
    exact at_sub _ (by exact ⟨rfl, rfl, rfl, rfl, rfl, trivial⟩) (at_widen (by omega) (by omega) (hend E2 hE2))
theorem dL_law__3197 : decode code 3197 = .ok (.aload_n 1, 1) := by decide +kernel
theorem dL_law__3198 : decode code 3198 = .ok (.aload_n 0, 1) := by decide +kernel
theorem dL_law__3199 : decode code 3199 = .ok (.iload 4, 2) := by decide +kernel
theorem dL_law__3201 : decode code 3201 = .ok (.iconst 1, 1) := by decide +kernel
theorem dL_law__3202 : decode code 3202 = .ok (.iadd, 1) := by decide +kernel
theorem dL_law__3203 : decode code 3203 = .ok (.iaload, 1) := by decide +kernel
theorem dL_law__3204 : decode code 3204 = .ok (.aload_n 0, 1) := by decide +kernel
theorem dL_law__3205 : decode code 3205 = .ok (.iload 4, 2) := by decide +kernel
theorem dL_law__3207 : decode code 3207 = .ok (.iconst 2, 1) := by decide +kernel
theorem dL_law__3208 : decode code 3208 = .ok (.iadd, 1) := by decide +kernel
theorem dL_law__3209 : decode code 3209 = .ok (.iaload, 1) := by decide +kernel
theorem dL_law__3210 : decode code 3210 = .ok (.aload_n 0, 1) := by decide +kernel
theorem dL_law__3211 : decode code 3211 = .ok (.iload 4, 2) := by decide +kernel
theorem dL_law__3213 : decode code 3213 = .ok (.iconst 3, 1) := by decide +kernel
theorem dL_law__3214 : decode code 3214 = .ok (.iadd, 1) := by decide +kernel
theorem dL_law__3215 : decode code 3215 = .ok (.iaload, 1) := by decide +kernel
theorem dL_law__3216 : decode code 3216 = .ok (.aload_n 3, 1) := by decide +kernel
theorem dL_law__3217 : decode code 3217 = .ok (.invokestatic 305, 3) := by decide +kernel
theorem dL_law__3220 : decode code 3220 = .ok (.istore 5, 2) := by decide +kernel
theorem dL_law__3222 : decode code 3222 = .ok (.aload_n 2, 1) := by decide +kernel
theorem dL_law__3223 : decode code 3223 = .ok (.aload_n 0, 1) := by decide +kernel
theorem dL_law__3224 : decode code 3224 = .ok (.iload 4, 2) := by decide +kernel
theorem dL_law__3226 : decode code 3226 = .ok (.iconst 1, 1) := by decide +kernel
theorem dL_law__3227 : decode code 3227 = .ok (.iadd, 1) := by decide +kernel
theorem dL_law__3228 : decode code 3228 = .ok (.iaload, 1) := by decide +kernel
theorem dL_law__3229 : decode code 3229 = .ok (.aload_n 0, 1) := by decide +kernel
theorem dL_law__3230 : decode code 3230 = .ok (.iload 4, 2) := by decide +kernel
theorem dL_law__3232 : decode code 3232 = .ok (.iconst 2, 1) := by decide +kernel
theorem dL_law__3233 : decode code 3233 = .ok (.iadd, 1) := by decide +kernel
theorem dL_law__3234 : decode code 3234 = .ok (.iaload, 1) := by decide +kernel
theorem dL_law__3235 : decode code 3235 = .ok (.aload_n 0, 1) := by decide +kernel
theorem dL_law__3236 : decode code 3236 = .ok (.iload 4, 2) := by decide +kernel
theorem dL_law__3238 : decode code 3238 = .ok (.iconst 3, 1) := by decide +kernel
theorem dL_law__3239 : decode code 3239 = .ok (.iadd, 1) := by decide +kernel
theorem dL_law__3240 : decode code 3240 = .ok (.iaload, 1) := by decide +kernel
theorem dL_law__3241 : decode code 3241 = .ok (.invokevirtual 307, 3) := by decide +kernel
theorem dL_law__3244 : decode code 3244 = .ok (.istore 6, 2) := by decide +kernel
theorem dL_law__3246 : decode code 3246 = .ok (.aload_n 2, 1) := by decide +kernel
theorem dL_law__3247 : decode code 3247 = .ok (.invokevirtual 160, 3) := by decide +kernel
theorem dL_law__3250 : decode code 3250 = .ok (.iload 5, 2) := by decide +kernel
theorem dL_law__3252 : decode code 3252 = .ok (.if_icmp .eq 5, 3) := by decide +kernel
theorem dL_law__3255 : decode code 3255 = .ok (.iconst 0, 1) := by decide +kernel
theorem dL_law__3256 : decode code 3256 = .ok (.ireturn, 1) := by decide +kernel
theorem dL_law__3257 : decode code 3257 = .ok (.iload 5, 2) := by decide +kernel
theorem dL_law__3259 : decode code 3259 = .ok (.ifCond .ne 15, 3) := by decide +kernel
theorem dL_law__3262 : decode code 3262 = .ok (.aload_n 3, 1) := by decide +kernel
theorem dL_law__3263 : decode code 3263 = .ok (.iconst 0, 1) := by decide +kernel
theorem dL_law__3264 : decode code 3264 = .ok (.laload, 1) := by decide +kernel
theorem dL_law__3265 : decode code 3265 = .ok (.iload 6, 2) := by decide +kernel
theorem dL_law__3267 : decode code 3267 = .ok (.i2l, 1) := by decide +kernel
theorem dL_law__3268 : decode code 3268 = .ok (.lcmp, 1) := by decide +kernel
theorem dL_law__3269 : decode code 3269 = .ok (.ifCond .eq 5, 3) := by decide +kernel
theorem dL_law__3272 : decode code 3272 = .ok (.iconst 0, 1) := by decide +kernel
theorem dL_law__3273 : decode code 3273 = .ok (.ireturn, 1) := by decide +kernel
theorem dL_law__3274 : decode code 3274 = .ok (.goto 92, 3) := by decide +kernel
theorem case_46 {INV INV' : Mm → Prop} {g : Gw} {p : Program} {e : Env} {s : State} {m : MethodId} {below : List Frame} {meth : Method} {c : Code} {b L : Nat} {xs : Nat → Int32} (hL : L ≤ 3072) (hG : GF g) (X : CX g (KL p e s m below meth c b) code R_law 8) (S : SCR g (KL p e s m below meth c b) b L xs) {fr lo mc ms fr2 lo2 : Nat} (M : Mm → Int → Int → Int → Nat → Int → Mm → Prop) (hX : ∀ (E : Mm) (x0 x1 x2 : Int), INV E → CTX g yX11_put cX11_put 5 (some .int) fr lo mc ms K2 false [mR 0, mI x0, mI x1, mI x2] (ov E) K2 false (fun r D' => ∃ (v : Int) (E1 : Mm), r = some (mI v) ∧ D' = ov E1 ∧ M E x0 x1 x2 0 v E1) (fun X D' => ∃ (c : Nat) (E1 : Mm), ((c = 1 ∧ X = "java/util/NoSuchElementException") ∨ (c = 2 ∧ X = "java/lang/IllegalArgumentException")) ∧ D' = ov E1 ∧ M E x0 x1 x2 c 0 E1)) (hM : ∀ (E : Mm) (x0 x1 x2 : Int) (c : Nat) (v : Int) (E1 : Mm), INV E → M E x0 x1 x2 c v E1 → CT g yX12_put cX12_put 5 (some .int) fr2 lo2 0 0 K2 false [mR 125, mI x0, mI x1, mI x2] (ov (if c = 0 then wr E1 813 0 v else E1)) K2 false (fun r D' => ∃ (bb : Int) (E2 : Mm), r = some (mI bb) ∧ D' = ov E2 ∧ INV' E2 ∧ E2 125 0 = (c : Int) ∧ (c = 0 → E2 813 0 = bb))) (hr1 : fr + 2 ≤ room_1.frames ∧ 8 + (6 + 11) + (lo + 24) ≤ room_1.locals) (hr2 : fr2 + 1 ≤ room_1.frames ∧ 8 + (5 + 11) + lo2 ≤ room_1.locals) (hmc : mc ≤ 10) (hms : ms ≤ 100) (E : Mm) (n cells slots : Nat) (hE : INV E) (hn : n + 6 ≤ L) (hc : cells + 10 ≤ 601024) (hs : slots + 100 ≤ 7293034) (hend : ∀ E' : Mm, INV' E' → AT g (KL p e s m below meth c b) K2 false (cells + 10) (slots + 100) 3366 (lawL b n) [] (ov E')) : AT g (KL p e s m below meth c b) K2 false cells slots 3197 (lawL b n) [] (ov E) := by
  refine at_aload_n 3198 X rfl rfl dL_law__3197 rfl ?_
  refine at_xload_n 3199 X rfl rfl dL_law__3198 rfl ?_
  refine at_iload 3201 X rfl dL_law__3199 rfl ?_
  refine at_iconst 3202 X (by decide) dL_law__3201 rfl ?_
  refine at_iadd 3203 X dL_law__3202 rfl ?_
  rw [w32_id (by omega) (by omega)]
  refine at_xint 3204 X S (by omega) (by omega) dL_law__3203 rfl ?_
  refine at_xload_n 3205 X rfl rfl dL_law__3204 rfl ?_
  refine at_iload 3207 X rfl dL_law__3205 rfl ?_
  refine at_iconst 3208 X (by decide) dL_law__3207 rfl ?_
  refine at_iadd 3209 X dL_law__3208 rfl ?_
  rw [w32_id (by omega) (by omega)]
  refine at_xint 3210 X S (by omega) (by omega) dL_law__3209 rfl ?_
  refine at_xload_n 3211 X rfl rfl dL_law__3210 rfl ?_
  refine at_iload 3213 X rfl dL_law__3211 rfl ?_
  refine at_iconst 3214 X (by decide) dL_law__3213 rfl ?_
  refine at_iadd 3215 X dL_law__3214 rfl ?_
  rw [w32_id (by omega) (by omega)]
  refine at_xint 3216 X S (by omega) (by omega) dL_law__3215 rfl ?_
  refine at_aload_n 3217 X rfl rfl dL_law__3216 rfl ?_
  refine at_callSH (n := 5) 3220 X (lh_put hG E _ _ _ (M E _ _ _) (hX E _ _ _ hE)) w_1718 w_120 rfl (by decide +kernel) w_1716 w_1717 rfl rfl (crl ⟨by omega, by omega⟩ (by omega) (by omega)) (Nat.le_of_ble_eq_true rfl) dL_law__3217 rfl ?_
  rintro _ _ ⟨cc, v, E1, rfl, hM1, rfl⟩
  refine at_istore 3222 X dL_law__3220 rfl (by decide) ?_
  refine at_aload_n 3223 X rfl rfl dL_law__3222 rfl ?_
  refine at_xload_n 3224 X rfl rfl dL_law__3223 rfl ?_
  refine at_iload 3226 X rfl dL_law__3224 rfl ?_
  refine at_iconst 3227 X (by decide) dL_law__3226 rfl ?_
  refine at_iadd 3228 X dL_law__3227 rfl ?_
  rw [w32_id (by omega) (by omega)]
  refine at_xint 3229 X S (by omega) (by omega) dL_law__3228 rfl ?_
  refine at_xload_n 3230 X rfl rfl dL_law__3229 rfl ?_
  refine at_iload 3232 X rfl dL_law__3230 rfl ?_
  refine at_iconst 3233 X (by decide) dL_law__3232 rfl ?_
  refine at_iadd 3234 X dL_law__3233 rfl ?_
  rw [w32_id (by omega) (by omega)]
  refine at_xint 3235 X S (by omega) (by omega) dL_law__3234 rfl ?_
  refine at_xload_n 3236 X rfl rfl dL_law__3235 rfl ?_
  refine at_iload 3238 X rfl dL_law__3236 rfl ?_
  refine at_iconst 3239 X (by decide) dL_law__3238 rfl ?_
  refine at_iadd 3240 X dL_law__3239 rfl ?_
  rw [w32_id (by omega) (by omega)]
  refine at_xint 3241 X S (by omega) (by omega) dL_law__3240 rfl ?_
  refine at_callV 3244 X _ 12 (hM E _ _ _ _ _ _ hE hM1) clX12 rfl k_125 mo_X12_put w_2422 vo_X12_put.1 vo_X12_put.2 rfl rfl (crl ⟨by omega, by omega⟩ (by omega) (by omega)) (Nat.le_of_ble_eq_true rfl) dL_law__3241 rfl ?_
  rintro _ _ ⟨bb, E2, rfl, rfl, hE2, hth, hbb⟩
  refine at_istore 3246 X dL_law__3244 rfl (by decide) ?_
  refine at_aload_n 3247 X rfl rfl dL_law__3246 rfl ?_
  refine at_callV 3250 X _ 12 (ct_X12_thrown hG E2) clX12 rfl k_125 mo_X12_thrown w_1945 vo_X12_thrown.1 vo_X12_thrown.2 rfl rfl (crl ⟨Nat.le_of_ble_eq_true rfl, Nat.le_of_ble_eq_true rfl⟩ (by omega) (by omega)) (Nat.le_of_ble_eq_true rfl) dL_law__3247 rfl ?_
  rintro _ _ ⟨rfl, rfl⟩
  rw [hth]
  refine at_iload 3252 X rfl dL_law__3250 rfl ?_
  refine at_icmp_eq 3255 3257 X dL_law__3252 rfl (by decide) (fun _ => ?_) (fun h => absurd rfl h)
  refine at_iload 3259 X rfl dL_law__3257 rfl ?_
  refine at_if_ne 3262 3274 X dL_law__3259 rfl (by decide) (fun h => ?_) (fun h => ?_)
  · refine at_goto 3366 X dL_law__3274 (by decide) ?_
    exact at_sub _ (by exact ⟨rfl, rfl, rfl, rfl, rfl, trivial⟩) (at_widen (by omega) (by omega) (hend E2 hE2))
  · have hc0 : cc = 0 := by omega
    have hbb := hbb hc0
    refine at_aload_n 3263 X rfl rfl dL_law__3262 rfl ?_
    refine at_iconst 3264 X (by decide) dL_law__3263 rfl ?_
    refine m_laload 3265 X k_813 e_813 (by decide) (by decide) dL_law__3264 rfl ?_
    refine at_iload 3267 X rfl dL_law__3265 rfl ?_
    refine at_i2l 3268 X dL_law__3267 rfl ?_
    refine at_lcmp 3269 X dL_law__3268 rfl ?_
    refine at_if_eq 3272 3274 X dL_law__3269 rfl (by decide) (fun _ => ?_) (fun h => absurd (lcmp_eq (by first | exact hbb | (rw [show (0 : Int).toNat = 0 from rfl, hbb]; omega))) h)
    refine at_goto 3366 X dL_law__3274 (by decide) ?_
    exact at_sub _ (by exact ⟨rfl, rfl, rfl, rfl, rfl, trivial⟩) (at_widen (by omega) (by omega) (hend E2 hE2))
theorem dL_law__3277 : decode code 3277 = .ok (.aload_n 1, 1) := by decide +kernel
theorem dL_law__3278 : decode code 3278 = .ok (.invokevirtual 308, 3) := by decide +kernel
theorem dL_law__3281 : decode code 3281 = .ok (.aload_n 2, 1) := by decide +kernel
theorem dL_law__3282 : decode code 3282 = .ok (.invokevirtual 311, 3) := by decide +kernel
theorem dL_law__3285 : decode code 3285 = .ok (.if_icmp .eq 81, 3) := by decide +kernel
theorem dL_law__3288 : decode code 3288 = .ok (.iconst 0, 1) := by decide +kernel
theorem dL_law__3289 : decode code 3289 = .ok (.ireturn, 1) := by decide +kernel
theorem case_47 {INV INV' : Mm → Prop} {g : Gw} {p : Program} {e : Env} {s : State} {m : MethodId} {below : List Frame} {meth : Method} {c : Code} {b L : Nat} {xs : Nat → Int32} (hL : L ≤ 3072) (hG : GF g) (X : CX g (KL p e s m below meth c b) code R_law 8) (S : SCR g (KL p e s m below meth c b) b L xs) {fr lo mc ms fr2 lo2 : Nat} (M : Mm → Int → Mm → Prop) (hX : ∀ (E : Mm), INV E → CT g yX11_undo cX11_undo 1 (some .int) fr lo mc ms K2 false [mR 0] (ov E) K2 false (fun r D' => ∃ (v : Int) (E1 : Mm), r = some (mI v) ∧ D' = ov E1 ∧ M E  v E1)) (hM : ∀ (E : Mm) (v : Int) (E1 : Mm), INV E → M E  v E1 → CT g yX12_undo cX12_undo 1 (some .int) fr2 lo2 0 0 K2 false [mR 125] (ov E1) K2 false (fun r D' => ∃ E2 : Mm, r = some (mI v) ∧ D' = ov E2 ∧ INV' E2)) (hr1 : fr + 1 ≤ room_1.frames ∧ 8 + (1 + 11) + lo ≤ room_1.locals) (hr2 : fr2 + 1 ≤ room_1.frames ∧ 8 + (1 + 11) + lo2 ≤ room_1.locals) (hmc : mc ≤ 10) (hms : ms ≤ 100) (E : Mm) (n cells slots : Nat) (hE : INV E) (hn : n + 6 ≤ L) (hc : cells + 10 ≤ 601024) (hs : slots + 100 ≤ 7293034) (hend : ∀ E' : Mm, INV' E' → AT g (KL p e s m below meth c b) K2 false (cells + 10) (slots + 100) 3366 (lawL b n) [] (ov E')) : AT g (KL p e s m below meth c b) K2 false cells slots 3277 (lawL b n) [] (ov E) := by
  refine at_aload_n 3278 X rfl rfl dL_law__3277 rfl ?_
  refine at_callV 3281 X _ 11 (hX E  hE) clX11 rfl k_0 mo_X11_undo w_799 vo_X11_undo.1 vo_X11_undo.2 rfl rfl (crl ⟨by omega, by omega⟩ (by omega) (by omega)) (Nat.le_of_ble_eq_true rfl) dL_law__3278 rfl ?_
  rintro _ _ ⟨v, E1, rfl, rfl, hM1⟩
  refine at_aload_n 3282 X rfl rfl dL_law__3281 rfl ?_
  refine at_callV 3285 X _ 12 (hM E  _ _ hE hM1) clX12 rfl k_125 mo_X12_undo w_2426 vo_X12_undo.1 vo_X12_undo.2 rfl rfl (crl ⟨by omega, by omega⟩ (by omega) (by omega)) (Nat.le_of_ble_eq_true rfl) dL_law__3282 rfl ?_
  rintro _ _ ⟨E2, rfl, rfl, hE2⟩
  refine at_icmp_eq 3288 3366 X dL_law__3285 rfl (by decide) (fun _ => ?_) (fun h => absurd rfl h)
  exact at_sub _ (by exact ⟨rfl, rfl, rfl, rfl, rfl, trivial⟩) (at_widen (by omega) (by omega) (hend E2 hE2))
theorem dL_law__3290 : decode code 3290 = .ok (.aload_n 1, 1) := by decide +kernel
theorem dL_law__3291 : decode code 3291 = .ok (.invokevirtual 312, 3) := by decide +kernel
theorem dL_law__3294 : decode code 3294 = .ok (.aload_n 2, 1) := by decide +kernel
theorem dL_law__3295 : decode code 3295 = .ok (.invokevirtual 315, 3) := by decide +kernel
theorem dL_law__3298 : decode code 3298 = .ok (.if_icmp .eq 68, 3) := by decide +kernel
theorem dL_law__3301 : decode code 3301 = .ok (.iconst 0, 1) := by decide +kernel
theorem dL_law__3302 : decode code 3302 = .ok (.ireturn, 1) := by decide +kernel
theorem case_48 {INV INV' : Mm → Prop} {g : Gw} {p : Program} {e : Env} {s : State} {m : MethodId} {below : List Frame} {meth : Method} {c : Code} {b L : Nat} {xs : Nat → Int32} (hL : L ≤ 3072) (hG : GF g) (X : CX g (KL p e s m below meth c b) code R_law 8) (S : SCR g (KL p e s m below meth c b) b L xs) {fr lo mc ms fr2 lo2 : Nat} (M : Mm → Int → Mm → Prop) (hX : ∀ (E : Mm), INV E → CT g yX11_image cX11_image 1 (some .int) fr lo mc ms K2 false [mR 0] (ov E) K2 false (fun r D' => ∃ (v : Int) (E1 : Mm), r = some (mI v) ∧ D' = ov E1 ∧ M E  v E1)) (hM : ∀ (E : Mm) (v : Int) (E1 : Mm), INV E → M E  v E1 → CT g yX12_image cX12_image 1 (some .int) fr2 lo2 0 0 K2 false [mR 125] (ov E1) K2 false (fun r D' => ∃ E2 : Mm, r = some (mI v) ∧ D' = ov E2 ∧ INV' E2)) (hr1 : fr + 1 ≤ room_1.frames ∧ 8 + (1 + 11) + lo ≤ room_1.locals) (hr2 : fr2 + 1 ≤ room_1.frames ∧ 8 + (1 + 11) + lo2 ≤ room_1.locals) (hmc : mc ≤ 10) (hms : ms ≤ 100) (E : Mm) (n cells slots : Nat) (hE : INV E) (hn : n + 6 ≤ L) (hc : cells + 10 ≤ 601024) (hs : slots + 100 ≤ 7293034) (hend : ∀ E' : Mm, INV' E' → AT g (KL p e s m below meth c b) K2 false (cells + 10) (slots + 100) 3366 (lawL b n) [] (ov E')) : AT g (KL p e s m below meth c b) K2 false cells slots 3290 (lawL b n) [] (ov E) := by
  refine at_aload_n 3291 X rfl rfl dL_law__3290 rfl ?_
  refine at_callV 3294 X _ 11 (hX E  hE) clX11 rfl k_0 mo_X11_image w_820 vo_X11_image.1 vo_X11_image.2 rfl rfl (crl ⟨by omega, by omega⟩ (by omega) (by omega)) (Nat.le_of_ble_eq_true rfl) dL_law__3291 rfl ?_
  rintro _ _ ⟨v, E1, rfl, rfl, hM1⟩
  refine at_aload_n 3295 X rfl rfl dL_law__3294 rfl ?_
  refine at_callV 3298 X _ 12 (hM E  _ _ hE hM1) clX12 rfl k_125 mo_X12_image w_2430 vo_X12_image.1 vo_X12_image.2 rfl rfl (crl ⟨by omega, by omega⟩ (by omega) (by omega)) (Nat.le_of_ble_eq_true rfl) dL_law__3295 rfl ?_
  rintro _ _ ⟨E2, rfl, rfl, hE2⟩
  refine at_icmp_eq 3301 3366 X dL_law__3298 rfl (by decide) (fun _ => ?_) (fun h => absurd rfl h)
  exact at_sub _ (by exact ⟨rfl, rfl, rfl, rfl, rfl, trivial⟩) (at_widen (by omega) (by omega) (hend E2 hE2))
theorem dL_law__3303 : decode code 3303 = .ok (.aload_n 1, 1) := by decide +kernel
theorem dL_law__3304 : decode code 3304 = .ok (.invokevirtual 316, 3) := by decide +kernel
theorem dL_law__3307 : decode code 3307 = .ok (.aload_n 2, 1) := by decide +kernel
theorem dL_law__3308 : decode code 3308 = .ok (.invokevirtual 319, 3) := by decide +kernel
theorem dL_law__3311 : decode code 3311 = .ok (.if_icmp .eq 55, 3) := by decide +kernel
theorem dL_law__3314 : decode code 3314 = .ok (.iconst 0, 1) := by decide +kernel
theorem dL_law__3315 : decode code 3315 = .ok (.ireturn, 1) := by decide +kernel
theorem case_49 {INV INV' : Mm → Prop} {g : Gw} {p : Program} {e : Env} {s : State} {m : MethodId} {below : List Frame} {meth : Method} {c : Code} {b L : Nat} {xs : Nat → Int32} (hL : L ≤ 3072) (hG : GF g) (X : CX g (KL p e s m below meth c b) code R_law 8) (S : SCR g (KL p e s m below meth c b) b L xs) {fr lo mc ms fr2 lo2 : Nat} (M : Mm → Int → Mm → Prop) (hX : ∀ (E : Mm), INV E → CT g yX11_restore cX11_restore 1 (some .int) fr lo mc ms K2 false [mR 0] (ov E) K2 false (fun r D' => ∃ (v : Int) (E1 : Mm), r = some (mI v) ∧ D' = ov E1 ∧ M E  v E1)) (hM : ∀ (E : Mm) (v : Int) (E1 : Mm), INV E → M E  v E1 → CT g yX12_restore cX12_restore 1 (some .int) fr2 lo2 0 0 K2 false [mR 125] (ov E1) K2 false (fun r D' => ∃ E2 : Mm, r = some (mI v) ∧ D' = ov E2 ∧ INV' E2)) (hr1 : fr + 1 ≤ room_1.frames ∧ 8 + (1 + 11) + lo ≤ room_1.locals) (hr2 : fr2 + 1 ≤ room_1.frames ∧ 8 + (1 + 11) + lo2 ≤ room_1.locals) (hmc : mc ≤ 10) (hms : ms ≤ 100) (E : Mm) (n cells slots : Nat) (hE : INV E) (hn : n + 6 ≤ L) (hc : cells + 10 ≤ 601024) (hs : slots + 100 ≤ 7293034) (hend : ∀ E' : Mm, INV' E' → AT g (KL p e s m below meth c b) K2 false (cells + 10) (slots + 100) 3366 (lawL b n) [] (ov E')) : AT g (KL p e s m below meth c b) K2 false cells slots 3303 (lawL b n) [] (ov E) := by
  refine at_aload_n 3304 X rfl rfl dL_law__3303 rfl ?_
  refine at_callV 3307 X _ 11 (hX E  hE) clX11 rfl k_0 mo_X11_restore w_834 vo_X11_restore.1 vo_X11_restore.2 rfl rfl (crl ⟨by omega, by omega⟩ (by omega) (by omega)) (Nat.le_of_ble_eq_true rfl) dL_law__3304 rfl ?_
  rintro _ _ ⟨v, E1, rfl, rfl, hM1⟩
  refine at_aload_n 3308 X rfl rfl dL_law__3307 rfl ?_
  refine at_callV 3311 X _ 12 (hM E  _ _ hE hM1) clX12 rfl k_125 mo_X12_restore w_2438 vo_X12_restore.1 vo_X12_restore.2 rfl rfl (crl ⟨by omega, by omega⟩ (by omega) (by omega)) (Nat.le_of_ble_eq_true rfl) dL_law__3308 rfl ?_
  rintro _ _ ⟨E2, rfl, rfl, hE2⟩
  refine at_icmp_eq 3314 3366 X dL_law__3311 rfl (by decide) (fun _ => ?_) (fun h => absurd rfl h)
  exact at_sub _ (by exact ⟨rfl, rfl, rfl, rfl, rfl, trivial⟩) (at_widen (by omega) (by omega) (hend E2 hE2))
theorem dL_law__3316 : decode code 3316 = .ok (.aload_n 1, 1) := by decide +kernel
theorem dL_law__3317 : decode code 3317 = .ok (.aload_n 0, 1) := by decide +kernel
theorem dL_law__3318 : decode code 3318 = .ok (.iload 4, 2) := by decide +kernel
theorem dL_law__3320 : decode code 3320 = .ok (.iconst 1, 1) := by decide +kernel
theorem dL_law__3321 : decode code 3321 = .ok (.iadd, 1) := by decide +kernel
theorem dL_law__3322 : decode code 3322 = .ok (.iaload, 1) := by decide +kernel
theorem dL_law__3323 : decode code 3323 = .ok (.invokevirtual 320, 3) := by decide +kernel
theorem dL_law__3326 : decode code 3326 = .ok (.aload_n 2, 1) := by decide +kernel
theorem dL_law__3327 : decode code 3327 = .ok (.aload_n 0, 1) := by decide +kernel
theorem dL_law__3328 : decode code 3328 = .ok (.iload 4, 2) := by decide +kernel
theorem dL_law__3330 : decode code 3330 = .ok (.iconst 1, 1) := by decide +kernel
theorem dL_law__3331 : decode code 3331 = .ok (.iadd, 1) := by decide +kernel
theorem dL_law__3332 : decode code 3332 = .ok (.iaload, 1) := by decide +kernel
theorem dL_law__3333 : decode code 3333 = .ok (.invokevirtual 323, 3) := by decide +kernel
theorem dL_law__3336 : decode code 3336 = .ok (.if_icmp .eq 30, 3) := by decide +kernel
theorem dL_law__3339 : decode code 3339 = .ok (.iconst 0, 1) := by decide +kernel
theorem dL_law__3340 : decode code 3340 = .ok (.ireturn, 1) := by decide +kernel
theorem case_50 {INV INV' : Mm → Prop} {g : Gw} {p : Program} {e : Env} {s : State} {m : MethodId} {below : List Frame} {meth : Method} {c : Code} {b L : Nat} {xs : Nat → Int32} (hL : L ≤ 3072) (hG : GF g) (X : CX g (KL p e s m below meth c b) code R_law 8) (S : SCR g (KL p e s m below meth c b) b L xs) {fr lo mc ms fr2 lo2 : Nat} (M : Mm → Int → Int → Mm → Prop) (hX : ∀ (E : Mm) (x0 : Int), INV E → CT g yX11_status cX11_status 2 (some .int) fr lo mc ms K2 false [mR 0, mI x0] (ov E) K2 false (fun r D' => ∃ (v : Int) (E1 : Mm), r = some (mI v) ∧ D' = ov E1 ∧ M E x0 v E1)) (hM : ∀ (E : Mm) (x0 : Int) (v : Int) (E1 : Mm), INV E → M E x0 v E1 → CT g yX12_status cX12_status 2 (some .int) fr2 lo2 0 0 K2 false [mR 125, mI x0] (ov E1) K2 false (fun r D' => ∃ E2 : Mm, r = some (mI v) ∧ D' = ov E2 ∧ INV' E2)) (hr1 : fr + 1 ≤ room_1.frames ∧ 8 + (2 + 11) + lo ≤ room_1.locals) (hr2 : fr2 + 1 ≤ room_1.frames ∧ 8 + (2 + 11) + lo2 ≤ room_1.locals) (hmc : mc ≤ 10) (hms : ms ≤ 100) (E : Mm) (n cells slots : Nat) (hE : INV E) (hn : n + 6 ≤ L) (hc : cells + 10 ≤ 601024) (hs : slots + 100 ≤ 7293034) (hend : ∀ E' : Mm, INV' E' → AT g (KL p e s m below meth c b) K2 false (cells + 10) (slots + 100) 3366 (lawL b n) [] (ov E')) : AT g (KL p e s m below meth c b) K2 false cells slots 3316 (lawL b n) [] (ov E) := by
  refine at_aload_n 3317 X rfl rfl dL_law__3316 rfl ?_
  refine at_xload_n 3318 X rfl rfl dL_law__3317 rfl ?_
  refine at_iload 3320 X rfl dL_law__3318 rfl ?_
  refine at_iconst 3321 X (by decide) dL_law__3320 rfl ?_
  refine at_iadd 3322 X dL_law__3321 rfl ?_
  rw [w32_id (by omega) (by omega)]
  refine at_xint 3323 X S (by omega) (by omega) dL_law__3322 rfl ?_
  refine at_callV 3326 X _ 11 (hX E _ hE) clX11 rfl k_0 mo_X11_status w_843 vo_X11_status.1 vo_X11_status.2 rfl rfl (crl ⟨by omega, by omega⟩ (by omega) (by omega)) (Nat.le_of_ble_eq_true rfl) dL_law__3323 rfl ?_
  rintro _ _ ⟨v, E1, rfl, rfl, hM1⟩
  refine at_aload_n 3327 X rfl rfl dL_law__3326 rfl ?_
  refine at_xload_n 3328 X rfl rfl dL_law__3327 rfl ?_
  refine at_iload 3330 X rfl dL_law__3328 rfl ?_
  refine at_iconst 3331 X (by decide) dL_law__3330 rfl ?_
  refine at_iadd 3332 X dL_law__3331 rfl ?_
  rw [w32_id (by omega) (by omega)]
  refine at_xint 3333 X S (by omega) (by omega) dL_law__3332 rfl ?_
  refine at_callV 3336 X _ 12 (hM E _ _ _ hE hM1) clX12 rfl k_125 mo_X12_status w_2442 vo_X12_status.1 vo_X12_status.2 rfl rfl (crl ⟨by omega, by omega⟩ (by omega) (by omega)) (Nat.le_of_ble_eq_true rfl) dL_law__3333 rfl ?_
  rintro _ _ ⟨E2, rfl, rfl, hE2⟩
  refine at_icmp_eq 3339 3366 X dL_law__3336 rfl (by decide) (fun _ => ?_) (fun h => absurd rfl h)
  exact at_sub _ (by exact ⟨rfl, rfl, rfl, rfl, rfl, trivial⟩) (at_widen (by omega) (by omega) (hend E2 hE2))
theorem dL_law__3341 : decode code 3341 = .ok (.aload_n 1, 1) := by decide +kernel
theorem dL_law__3342 : decode code 3342 = .ok (.aload_n 0, 1) := by decide +kernel
theorem dL_law__3343 : decode code 3343 = .ok (.iload 4, 2) := by decide +kernel
theorem dL_law__3345 : decode code 3345 = .ok (.iconst 1, 1) := by decide +kernel
theorem dL_law__3346 : decode code 3346 = .ok (.iadd, 1) := by decide +kernel
theorem dL_law__3347 : decode code 3347 = .ok (.iaload, 1) := by decide +kernel
theorem dL_law__3348 : decode code 3348 = .ok (.invokevirtual 324, 3) := by decide +kernel
theorem dL_law__3351 : decode code 3351 = .ok (.aload_n 2, 1) := by decide +kernel
theorem dL_law__3352 : decode code 3352 = .ok (.aload_n 0, 1) := by decide +kernel
theorem dL_law__3353 : decode code 3353 = .ok (.iload 4, 2) := by decide +kernel
theorem dL_law__3355 : decode code 3355 = .ok (.iconst 1, 1) := by decide +kernel
theorem dL_law__3356 : decode code 3356 = .ok (.iadd, 1) := by decide +kernel
theorem dL_law__3357 : decode code 3357 = .ok (.iaload, 1) := by decide +kernel
theorem dL_law__3358 : decode code 3358 = .ok (.invokevirtual 327, 3) := by decide +kernel
theorem dL_law__3361 : decode code 3361 = .ok (.if_icmp .eq 5, 3) := by decide +kernel
theorem dL_law__3364 : decode code 3364 = .ok (.iconst 0, 1) := by decide +kernel
theorem dL_law__3365 : decode code 3365 = .ok (.ireturn, 1) := by decide +kernel
theorem case_51 {INV INV' : Mm → Prop} {g : Gw} {p : Program} {e : Env} {s : State} {m : MethodId} {below : List Frame} {meth : Method} {c : Code} {b L : Nat} {xs : Nat → Int32} (hL : L ≤ 3072) (hG : GF g) (X : CX g (KL p e s m below meth c b) code R_law 8) (S : SCR g (KL p e s m below meth c b) b L xs) {fr lo mc ms fr2 lo2 : Nat} (M : Mm → Int → Int → Mm → Prop) (hX : ∀ (E : Mm) (x0 : Int), INV E → CT g yX11_count cX11_count 2 (some .int) fr lo mc ms K2 false [mR 0, mI x0] (ov E) K2 false (fun r D' => ∃ (v : Int) (E1 : Mm), r = some (mI v) ∧ D' = ov E1 ∧ M E x0 v E1)) (hM : ∀ (E : Mm) (x0 : Int) (v : Int) (E1 : Mm), INV E → M E x0 v E1 → CT g yX12_count cX12_count 2 (some .int) fr2 lo2 0 0 K2 false [mR 125, mI x0] (ov E1) K2 false (fun r D' => ∃ E2 : Mm, r = some (mI v) ∧ D' = ov E2 ∧ INV' E2)) (hr1 : fr + 1 ≤ room_1.frames ∧ 8 + (2 + 11) + lo ≤ room_1.locals) (hr2 : fr2 + 1 ≤ room_1.frames ∧ 8 + (2 + 11) + lo2 ≤ room_1.locals) (hmc : mc ≤ 10) (hms : ms ≤ 100) (E : Mm) (n cells slots : Nat) (hE : INV E) (hn : n + 6 ≤ L) (hc : cells + 10 ≤ 601024) (hs : slots + 100 ≤ 7293034) (hend : ∀ E' : Mm, INV' E' → AT g (KL p e s m below meth c b) K2 false (cells + 10) (slots + 100) 3366 (lawL b n) [] (ov E')) : AT g (KL p e s m below meth c b) K2 false cells slots 3341 (lawL b n) [] (ov E) := by
  refine at_aload_n 3342 X rfl rfl dL_law__3341 rfl ?_
  refine at_xload_n 3343 X rfl rfl dL_law__3342 rfl ?_
  refine at_iload 3345 X rfl dL_law__3343 rfl ?_
  refine at_iconst 3346 X (by decide) dL_law__3345 rfl ?_
  refine at_iadd 3347 X dL_law__3346 rfl ?_
  rw [w32_id (by omega) (by omega)]
  refine at_xint 3348 X S (by omega) (by omega) dL_law__3347 rfl ?_
  refine at_callV 3351 X _ 11 (hX E _ hE) clX11 rfl k_0 mo_X11_count w_847 vo_X11_count.1 vo_X11_count.2 rfl rfl (crl ⟨by omega, by omega⟩ (by omega) (by omega)) (Nat.le_of_ble_eq_true rfl) dL_law__3348 rfl ?_
  rintro _ _ ⟨v, E1, rfl, rfl, hM1⟩
  refine at_aload_n 3352 X rfl rfl dL_law__3351 rfl ?_
  refine at_xload_n 3353 X rfl rfl dL_law__3352 rfl ?_
  refine at_iload 3355 X rfl dL_law__3353 rfl ?_
  refine at_iconst 3356 X (by decide) dL_law__3355 rfl ?_
  refine at_iadd 3357 X dL_law__3356 rfl ?_
  rw [w32_id (by omega) (by omega)]
  refine at_xint 3358 X S (by omega) (by omega) dL_law__3357 rfl ?_
  refine at_callV 3361 X _ 12 (hM E _ _ _ hE hM1) clX12 rfl k_125 mo_X12_count w_2446 vo_X12_count.1 vo_X12_count.2 rfl rfl (crl ⟨by omega, by omega⟩ (by omega) (by omega)) (Nat.le_of_ble_eq_true rfl) dL_law__3358 rfl ?_
  rintro _ _ ⟨E2, rfl, rfl, hE2⟩
  refine at_icmp_eq 3364 3366 X dL_law__3361 rfl (by decide) (fun _ => ?_) (fun h => absurd rfl h)
  exact at_sub _ (by exact ⟨rfl, rfl, rfl, rfl, rfl, trivial⟩) (at_widen (by omega) (by omega) (hend E2 hE2))
