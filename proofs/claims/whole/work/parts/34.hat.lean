/-- a word that a throw wants is one of the tables' -/
def okW (w : Cond) : Prop := vx_no w = true → w ∈ ALLW ∨ w ∈ NESTW
theorem ok_T : ∀ w ∈ Bundle.throwableAtoms, okW w := by
  intro w hw
  unfold Bundle.throwableAtoms at hw
  simp only [List.mem_cons, List.not_mem_nil, or_false] at hw
  rcases hw with rfl | rfl | rfl | rfl | rfl | rfl | rfl | rfl | rfl | rfl | rfl | rfl | rfl | rfl | rfl | rfl | rfl | rfl | rfl | rfl | rfl | rfl | rfl | rfl
  · exact fun _ => Or.inl w_135
  · exact fun _ => Or.inl w_889
  · exact fun _ => Or.inl w_898
  · exact fun _ => Or.inl w_902
  · exact fun _ => Or.inl w_905
  · exact fun _ => Or.inl w_907
  · exact fun _ => Or.inl w_890
  · exact fun _ => Or.inl w_891
  · exact fun _ => Or.inl w_156
  · exact fun _ => Or.inl w_157
  · exact fun _ => Or.inl w_892
  · exact fun _ => Or.inl w_897
  · exact fun _ => Or.inl w_903
  · exact fun _ => Or.inl w_923
  · exact fun _ => Or.inl w_879
  · exact fun _ => Or.inl w_924
  · exact fun _ => Or.inl w_881
  · exact fun _ => Or.inl w_925
  · exact fun _ => Or.inl w_883
  · exact fun _ => Or.inl w_893
  · exact fun h => absurd h (by decide)
  · exact fun _ => Or.inl w_895
  · exact fun h => absurd h (by decide)
  · exact fun _ => Or.inl w_885
theorem ok_S : ∀ w ∈ Bundle.throwableSAtoms, okW w := by
  intro w hw
  unfold Bundle.throwableSAtoms at hw
  simp only [List.mem_cons, List.not_mem_nil, or_false] at hw
  rcases hw with rfl | rfl | rfl | rfl
  · exact fun _ => Or.inl w_919
  · exact fun _ => Or.inl w_920
  · exact fun _ => Or.inl w_922
  · exact fun _ => Or.inl w_885
theorem ok_rte : ∀ w ∈ Bundle.passSAtoms "java/lang/RuntimeException" "java/lang/Exception" 7 Bundle.six, okW w := by
  intro w hw
  unfold Bundle.passSAtoms at hw
  simp only [List.mem_cons, List.not_mem_nil, or_false] at hw
  rcases hw with rfl | rfl | rfl | rfl | rfl
  · exact fun _ => Or.inl w_913
  · exact fun _ => Or.inl w_914
  · exact fun _ => Or.inl w_915
  · exact fun _ => Or.inl w_916
  · exact fun _ => Or.inr w_873
theorem ok_exc : ∀ w ∈ Bundle.passSAtoms "java/lang/Exception" Bundle.tN 7 Bundle.six, okW w := by
  intro w hw
  unfold Bundle.passSAtoms at hw
  simp only [List.mem_cons, List.not_mem_nil, or_false] at hw
  rcases hw with rfl | rfl | rfl | rfl | rfl
  · exact fun _ => Or.inl w_916
  · exact fun _ => Or.inl w_917
  · exact fun _ => Or.inl w_918
  · exact fun _ => Or.inl w_919
  · exact fun _ => Or.inr w_875
theorem ok_ib : ∀ w ∈ Bundle.passSAtoms "java/lang/IndexOutOfBoundsException" "java/lang/RuntimeException" 7 Bundle.six, okW w := by
  intro w hw
  unfold Bundle.passSAtoms at hw
  simp only [List.mem_cons, List.not_mem_nil, or_false] at hw
  rcases hw with rfl | rfl | rfl | rfl | rfl
  · exact fun _ => Or.inl w_1287
  · exact fun _ => Or.inl w_1288
  · exact fun _ => Or.inl w_1289
  · exact fun _ => Or.inl w_913
  · exact fun _ => Or.inr w_871
theorem hat_ib : ∀ w ∈ (thA "ShadeBeams" 479 "java/lang/IndexOutOfBoundsException" "java/lang/RuntimeException" ["java/lang/Exception"] 7 Bundle.six).filter vx_no, w ∈ ALLW ∨ w ∈ NESTW := by
  intro w hw
  obtain ⟨hw, hv⟩ := List.mem_filter.mp hw
  refine (?_ : okW w) hv
  unfold thA at hw
  rcases List.mem_append.mp hw with hw | hw
  · rcases List.mem_append.mp hw with hw | hw
    · rcases List.mem_append.mp hw with hw | hw
      · exact ok_T w hw
      · exact ok_S w hw
    · rcases List.mem_append.mp hw with hw | hw
      · exact ok_ib w hw
      · unfold Bundle.chainSAtoms at hw
        rcases List.mem_append.mp hw with hw | hw
        · exact ok_rte w hw
        · unfold Bundle.chainSAtoms at hw
          exact ok_exc w hw
  · simp only [List.mem_cons, List.not_mem_nil, or_false] at hw
    rcases hw with rfl | rfl | rfl | rfl | rfl | rfl | rfl | rfl | rfl | rfl | rfl | rfl | rfl | rfl
    · exact fun _ => Or.inl w_1286
    · exact fun _ => Or.inl w_1277
    · exact fun _ => Or.inr w_1278
    · exact fun _ => Or.inl w_1279
    · exact fun _ => Or.inl w_900
    · exact fun _ => Or.inl w_1280
    · exact fun _ => Or.inl w_1281
    · exact fun _ => Or.inl w_1282
    · exact fun _ => Or.inl w_1283
    · exact fun h => absurd h (by decide)
    · exact fun h => absurd h (by decide)
    · exact fun _ => Or.inl w_888
    · exact fun _ => Or.inl w_887
    · exact fun _ => Or.inl w_1284
theorem ok_ne : ∀ w ∈ Bundle.passSAtoms "java/util/NoSuchElementException" "java/lang/RuntimeException" 13 ⟨#[0x2a, 0x2b, 0xb7, 0x00, 0x0d, 0xb1]⟩, okW w := by
  intro w hw
  unfold Bundle.passSAtoms at hw
  simp only [List.mem_cons, List.not_mem_nil, or_false] at hw
  rcases hw with rfl | rfl | rfl | rfl | rfl
  · exact fun _ => Or.inl w_1223
  · exact fun _ => Or.inl w_1224
  · exact fun _ => Or.inl w_1225
  · exact fun _ => Or.inl w_913
  · exact fun _ => Or.inr w_871
theorem hat_ne : ∀ w ∈ (thA "ShadeBeams" 486 "java/util/NoSuchElementException" "java/lang/RuntimeException" ["java/lang/Exception"] 13 ⟨#[0x2a, 0x2b, 0xb7, 0x00, 0x0d, 0xb1]⟩).filter vx_no, w ∈ ALLW ∨ w ∈ NESTW := by
  intro w hw
  obtain ⟨hw, hv⟩ := List.mem_filter.mp hw
  refine (?_ : okW w) hv
  unfold thA at hw
  rcases List.mem_append.mp hw with hw | hw
  · rcases List.mem_append.mp hw with hw | hw
    · rcases List.mem_append.mp hw with hw | hw
      · exact ok_T w hw
      · exact ok_S w hw
    · rcases List.mem_append.mp hw with hw | hw
      · exact ok_ne w hw
      · unfold Bundle.chainSAtoms at hw
        rcases List.mem_append.mp hw with hw | hw
        · exact ok_rte w hw
        · unfold Bundle.chainSAtoms at hw
          exact ok_exc w hw
  · simp only [List.mem_cons, List.not_mem_nil, or_false] at hw
    rcases hw with rfl | rfl | rfl | rfl | rfl | rfl | rfl | rfl | rfl | rfl | rfl | rfl | rfl | rfl
    · exact fun _ => Or.inl w_1222
    · exact fun _ => Or.inl w_1213
    · exact fun _ => Or.inr w_1214
    · exact fun _ => Or.inl w_1215
    · exact fun _ => Or.inl w_901
    · exact fun _ => Or.inl w_1216
    · exact fun _ => Or.inl w_1217
    · exact fun _ => Or.inl w_1218
    · exact fun _ => Or.inl w_1219
    · exact fun h => absurd h (by decide)
    · exact fun h => absurd h (by decide)
    · exact fun _ => Or.inl w_888
    · exact fun _ => Or.inl w_887
    · exact fun _ => Or.inl w_1220
theorem ok_ia : ∀ w ∈ Bundle.passSAtoms "java/lang/IllegalArgumentException" "java/lang/RuntimeException" 7 Bundle.six, okW w := by
  intro w hw
  unfold Bundle.passSAtoms at hw
  simp only [List.mem_cons, List.not_mem_nil, or_false] at hw
  rcases hw with rfl | rfl | rfl | rfl | rfl
  · exact fun _ => Or.inl w_910
  · exact fun _ => Or.inl w_911
  · exact fun _ => Or.inl w_912
  · exact fun _ => Or.inl w_913
  · exact fun _ => Or.inr w_871
theorem hat_ia : ∀ w ∈ (thA "ShadeBeams" 493 "java/lang/IllegalArgumentException" "java/lang/RuntimeException" ["java/lang/Exception"] 7 Bundle.six).filter vx_no, w ∈ ALLW ∨ w ∈ NESTW := by
  intro w hw
  obtain ⟨hw, hv⟩ := List.mem_filter.mp hw
  refine (?_ : okW w) hv
  unfold thA at hw
  rcases List.mem_append.mp hw with hw | hw
  · rcases List.mem_append.mp hw with hw | hw
    · rcases List.mem_append.mp hw with hw | hw
      · exact ok_T w hw
      · exact ok_S w hw
    · rcases List.mem_append.mp hw with hw | hw
      · exact ok_ia w hw
      · unfold Bundle.chainSAtoms at hw
        rcases List.mem_append.mp hw with hw | hw
        · exact ok_rte w hw
        · unfold Bundle.chainSAtoms at hw
          exact ok_exc w hw
  · simp only [List.mem_cons, List.not_mem_nil, or_false] at hw
    rcases hw with rfl | rfl | rfl | rfl | rfl | rfl | rfl | rfl | rfl | rfl | rfl | rfl | rfl | rfl
    · exact fun _ => Or.inl w_909
    · exact fun _ => Or.inl w_868
    · exact fun _ => Or.inr w_869
    · exact fun _ => Or.inl w_876
    · exact fun _ => Or.inl w_877
    · exact fun _ => Or.inl w_878
    · exact fun _ => Or.inl w_880
    · exact fun _ => Or.inl w_882
    · exact fun _ => Or.inl w_884
    · exact fun h => absurd h (by decide)
    · exact fun h => absurd h (by decide)
    · exact fun _ => Or.inl w_888
    · exact fun _ => Or.inl w_887
    · exact fun _ => Or.inl w_886
