/-! the words that an exception's making needs -/
def up2 : List String := ["java/lang/RuntimeException", "java/lang/Exception"]
theorem own_ISE : ∀ a ∈ Bundle.ownAtoms "PairedField" 56 "java/lang/IllegalStateException" up2, a ∈ Ttab ∨ a ∈ thAtoms := by
  refine List.forall_mem_cons.mpr ⟨?_, ?_⟩
  · exact Or.inl (t1_mem 6 rfl rfl)
  refine List.forall_mem_cons.mpr ⟨?_, ?_⟩
  · exact Or.inl (t2_mem 35 rfl rfl)
  refine List.forall_mem_cons.mpr ⟨?_, ?_⟩
  · exact Or.inl (t2_mem 44 rfl rfl)
  refine List.forall_mem_cons.mpr ⟨?_, ?_⟩
  · exact Or.inl (t2_mem 49 rfl rfl)
  refine List.forall_mem_cons.mpr ⟨?_, ?_⟩
  · exact Or.inl (t2_mem 52 rfl rfl)
  refine List.forall_mem_cons.mpr ⟨?_, ?_⟩
  · exact Or.inl (t2_mem 54 rfl rfl)
  refine List.forall_mem_cons.mpr ⟨?_, ?_⟩
  · exact Or.inl (t2_mem 36 rfl rfl)
  refine List.forall_mem_cons.mpr ⟨?_, ?_⟩
  · exact Or.inl (t2_mem 37 rfl rfl)
  refine List.forall_mem_cons.mpr ⟨?_, ?_⟩
  · exact Or.inl (t1_mem 22 rfl rfl)
  refine List.forall_mem_cons.mpr ⟨?_, ?_⟩
  · exact Or.inl (t1_mem 23 rfl rfl)
  refine List.forall_mem_cons.mpr ⟨?_, ?_⟩
  · exact Or.inl (t2_mem 38 rfl rfl)
  refine List.forall_mem_cons.mpr ⟨?_, ?_⟩
  · exact Or.inl (t2_mem 43 rfl rfl)
  refine List.forall_mem_cons.mpr ⟨?_, ?_⟩
  · exact Or.inl (t2_mem 50 rfl rfl)
  refine List.forall_mem_cons.mpr ⟨?_, ?_⟩
  · exact Or.inl (t2_mem 70 rfl rfl)
  refine List.forall_mem_cons.mpr ⟨?_, ?_⟩
  · exact Or.inl (t2_mem 25 rfl rfl)
  refine List.forall_mem_cons.mpr ⟨?_, ?_⟩
  · exact Or.inl (t2_mem 71 rfl rfl)
  refine List.forall_mem_cons.mpr ⟨?_, ?_⟩
  · exact Or.inl (t2_mem 27 rfl rfl)
  refine List.forall_mem_cons.mpr ⟨?_, ?_⟩
  · exact Or.inl (t2_mem 72 rfl rfl)
  refine List.forall_mem_cons.mpr ⟨?_, ?_⟩
  · exact Or.inl (t2_mem 29 rfl rfl)
  refine List.forall_mem_cons.mpr ⟨?_, ?_⟩
  · exact Or.inl (t2_mem 39 rfl rfl)
  refine List.forall_mem_cons.mpr ⟨?_, ?_⟩
  · exact Or.inr (by simp [thAtoms, Bundle.tN, Bundle.steD, Bundle.listD])
  refine List.forall_mem_cons.mpr ⟨?_, ?_⟩
  · exact Or.inl (t2_mem 41 rfl rfl)
  refine List.forall_mem_cons.mpr ⟨?_, ?_⟩
  · exact Or.inr (by simp [thAtoms, Bundle.tN, Bundle.steD, Bundle.listD])
  refine List.forall_mem_cons.mpr ⟨?_, ?_⟩
  · exact Or.inl (t2_mem 31 rfl rfl)
  refine List.forall_mem_cons.mpr ⟨?_, ?_⟩
  · exact Or.inl (t2_mem 66 rfl rfl)
  refine List.forall_mem_cons.mpr ⟨?_, ?_⟩
  · exact Or.inl (t2_mem 67 rfl rfl)
  refine List.forall_mem_cons.mpr ⟨?_, ?_⟩
  · exact Or.inl (t2_mem 69 rfl rfl)
  refine List.forall_mem_cons.mpr ⟨?_, ?_⟩
  · exact Or.inl (t2_mem 31 rfl rfl)
  refine List.forall_mem_cons.mpr ⟨?_, ?_⟩
  · exact Or.inl (t2_mem 57 rfl rfl)
  refine List.forall_mem_cons.mpr ⟨?_, ?_⟩
  · exact Or.inl (t2_mem 58 rfl rfl)
  refine List.forall_mem_cons.mpr ⟨?_, ?_⟩
  · exact Or.inl (t2_mem 59 rfl rfl)
  refine List.forall_mem_cons.mpr ⟨?_, ?_⟩
  · exact Or.inl (t2_mem 60 rfl rfl)
  refine List.forall_mem_cons.mpr ⟨?_, ?_⟩
  · exact Or.inl (t2_mem 17 rfl rfl)
  refine List.forall_mem_cons.mpr ⟨?_, ?_⟩
  · exact Or.inl (t2_mem 60 rfl rfl)
  refine List.forall_mem_cons.mpr ⟨?_, ?_⟩
  · exact Or.inl (t2_mem 61 rfl rfl)
  refine List.forall_mem_cons.mpr ⟨?_, ?_⟩
  · exact Or.inl (t2_mem 62 rfl rfl)
  refine List.forall_mem_cons.mpr ⟨?_, ?_⟩
  · exact Or.inl (t2_mem 63 rfl rfl)
  refine List.forall_mem_cons.mpr ⟨?_, ?_⟩
  · exact Or.inl (t2_mem 19 rfl rfl)
  refine List.forall_mem_cons.mpr ⟨?_, ?_⟩
  · exact Or.inl (t2_mem 63 rfl rfl)
  refine List.forall_mem_cons.mpr ⟨?_, ?_⟩
  · exact Or.inl (t2_mem 64 rfl rfl)
  refine List.forall_mem_cons.mpr ⟨?_, ?_⟩
  · exact Or.inl (t2_mem 65 rfl rfl)
  refine List.forall_mem_cons.mpr ⟨?_, ?_⟩
  · exact Or.inl (t2_mem 66 rfl rfl)
  refine List.forall_mem_cons.mpr ⟨?_, ?_⟩
  · exact Or.inl (t2_mem 21 rfl rfl)
  refine List.forall_mem_cons.mpr ⟨?_, ?_⟩
  · exact Or.inl (t2_mem 56 rfl rfl)
  refine List.forall_mem_cons.mpr ⟨?_, ?_⟩
  · exact Or.inl (t2_mem 14 rfl rfl)
  refine List.forall_mem_cons.mpr ⟨?_, ?_⟩
  · exact Or.inl (t2_mem 15 rfl rfl)
  refine List.forall_mem_cons.mpr ⟨?_, ?_⟩
  · exact Or.inl (t2_mem 22 rfl rfl)
  refine List.forall_mem_cons.mpr ⟨?_, ?_⟩
  · exact Or.inl (t2_mem 23 rfl rfl)
  refine List.forall_mem_cons.mpr ⟨?_, ?_⟩
  · exact Or.inl (t2_mem 24 rfl rfl)
  refine List.forall_mem_cons.mpr ⟨?_, ?_⟩
  · exact Or.inl (t2_mem 26 rfl rfl)
  refine List.forall_mem_cons.mpr ⟨?_, ?_⟩
  · exact Or.inl (t2_mem 28 rfl rfl)
  refine List.forall_mem_cons.mpr ⟨?_, ?_⟩
  · exact Or.inl (t2_mem 30 rfl rfl)
  refine List.forall_mem_cons.mpr ⟨?_, ?_⟩
  · exact Or.inr (by simp [thAtoms, Bundle.tN, Bundle.steD, Bundle.listD])
  refine List.forall_mem_cons.mpr ⟨?_, ?_⟩
  · exact Or.inr (by simp [thAtoms, Bundle.tN, Bundle.steD, Bundle.listD])
  refine List.forall_mem_cons.mpr ⟨?_, ?_⟩
  · exact Or.inl (t2_mem 34 rfl rfl)
  refine List.forall_mem_cons.mpr ⟨?_, ?_⟩
  · exact Or.inl (t2_mem 33 rfl rfl)
  refine List.forall_mem_cons.mpr ⟨?_, ?_⟩
  · exact Or.inl (t2_mem 32 rfl rfl)
  exact List.forall_mem_nil _
theorem own_IOB : ∀ a ∈ Bundle.ownAtoms "PairedField" 177 "java/lang/IndexOutOfBoundsException" up2, a ∈ Ttab ∨ a ∈ thAtoms := by
  refine List.forall_mem_cons.mpr ⟨?_, ?_⟩
  · exact Or.inl (t1_mem 6 rfl rfl)
  refine List.forall_mem_cons.mpr ⟨?_, ?_⟩
  · exact Or.inl (t2_mem 35 rfl rfl)
  refine List.forall_mem_cons.mpr ⟨?_, ?_⟩
  · exact Or.inl (t2_mem 44 rfl rfl)
  refine List.forall_mem_cons.mpr ⟨?_, ?_⟩
  · exact Or.inl (t2_mem 49 rfl rfl)
  refine List.forall_mem_cons.mpr ⟨?_, ?_⟩
  · exact Or.inl (t2_mem 52 rfl rfl)
  refine List.forall_mem_cons.mpr ⟨?_, ?_⟩
  · exact Or.inl (t2_mem 54 rfl rfl)
  refine List.forall_mem_cons.mpr ⟨?_, ?_⟩
  · exact Or.inl (t2_mem 36 rfl rfl)
  refine List.forall_mem_cons.mpr ⟨?_, ?_⟩
  · exact Or.inl (t2_mem 37 rfl rfl)
  refine List.forall_mem_cons.mpr ⟨?_, ?_⟩
  · exact Or.inl (t1_mem 22 rfl rfl)
  refine List.forall_mem_cons.mpr ⟨?_, ?_⟩
  · exact Or.inl (t1_mem 23 rfl rfl)
  refine List.forall_mem_cons.mpr ⟨?_, ?_⟩
  · exact Or.inl (t2_mem 38 rfl rfl)
  refine List.forall_mem_cons.mpr ⟨?_, ?_⟩
  · exact Or.inl (t2_mem 43 rfl rfl)
  refine List.forall_mem_cons.mpr ⟨?_, ?_⟩
  · exact Or.inl (t2_mem 50 rfl rfl)
  refine List.forall_mem_cons.mpr ⟨?_, ?_⟩
  · exact Or.inl (t2_mem 70 rfl rfl)
  refine List.forall_mem_cons.mpr ⟨?_, ?_⟩
  · exact Or.inl (t2_mem 25 rfl rfl)
  refine List.forall_mem_cons.mpr ⟨?_, ?_⟩
  · exact Or.inl (t2_mem 71 rfl rfl)
  refine List.forall_mem_cons.mpr ⟨?_, ?_⟩
  · exact Or.inl (t2_mem 27 rfl rfl)
  refine List.forall_mem_cons.mpr ⟨?_, ?_⟩
  · exact Or.inl (t2_mem 72 rfl rfl)
  refine List.forall_mem_cons.mpr ⟨?_, ?_⟩
  · exact Or.inl (t2_mem 29 rfl rfl)
  refine List.forall_mem_cons.mpr ⟨?_, ?_⟩
  · exact Or.inl (t2_mem 39 rfl rfl)
  refine List.forall_mem_cons.mpr ⟨?_, ?_⟩
  · exact Or.inr (by simp [thAtoms, Bundle.tN, Bundle.steD, Bundle.listD])
  refine List.forall_mem_cons.mpr ⟨?_, ?_⟩
  · exact Or.inl (t2_mem 41 rfl rfl)
  refine List.forall_mem_cons.mpr ⟨?_, ?_⟩
  · exact Or.inr (by simp [thAtoms, Bundle.tN, Bundle.steD, Bundle.listD])
  refine List.forall_mem_cons.mpr ⟨?_, ?_⟩
  · exact Or.inl (t2_mem 31 rfl rfl)
  refine List.forall_mem_cons.mpr ⟨?_, ?_⟩
  · exact Or.inl (t2_mem 66 rfl rfl)
  refine List.forall_mem_cons.mpr ⟨?_, ?_⟩
  · exact Or.inl (t2_mem 67 rfl rfl)
  refine List.forall_mem_cons.mpr ⟨?_, ?_⟩
  · exact Or.inl (t2_mem 69 rfl rfl)
  refine List.forall_mem_cons.mpr ⟨?_, ?_⟩
  · exact Or.inl (t2_mem 31 rfl rfl)
  refine List.forall_mem_cons.mpr ⟨?_, ?_⟩
  · exact Or.inl (t2_mem 107 rfl rfl)
  refine List.forall_mem_cons.mpr ⟨?_, ?_⟩
  · exact Or.inl (t2_mem 108 rfl rfl)
  refine List.forall_mem_cons.mpr ⟨?_, ?_⟩
  · exact Or.inl (t2_mem 109 rfl rfl)
  refine List.forall_mem_cons.mpr ⟨?_, ?_⟩
  · exact Or.inl (t2_mem 60 rfl rfl)
  refine List.forall_mem_cons.mpr ⟨?_, ?_⟩
  · exact Or.inl (t2_mem 17 rfl rfl)
  refine List.forall_mem_cons.mpr ⟨?_, ?_⟩
  · exact Or.inl (t2_mem 60 rfl rfl)
  refine List.forall_mem_cons.mpr ⟨?_, ?_⟩
  · exact Or.inl (t2_mem 61 rfl rfl)
  refine List.forall_mem_cons.mpr ⟨?_, ?_⟩
  · exact Or.inl (t2_mem 62 rfl rfl)
  refine List.forall_mem_cons.mpr ⟨?_, ?_⟩
  · exact Or.inl (t2_mem 63 rfl rfl)
  refine List.forall_mem_cons.mpr ⟨?_, ?_⟩
  · exact Or.inl (t2_mem 19 rfl rfl)
  refine List.forall_mem_cons.mpr ⟨?_, ?_⟩
  · exact Or.inl (t2_mem 63 rfl rfl)
  refine List.forall_mem_cons.mpr ⟨?_, ?_⟩
  · exact Or.inl (t2_mem 64 rfl rfl)
  refine List.forall_mem_cons.mpr ⟨?_, ?_⟩
  · exact Or.inl (t2_mem 65 rfl rfl)
  refine List.forall_mem_cons.mpr ⟨?_, ?_⟩
  · exact Or.inl (t2_mem 66 rfl rfl)
  refine List.forall_mem_cons.mpr ⟨?_, ?_⟩
  · exact Or.inl (t2_mem 21 rfl rfl)
  refine List.forall_mem_cons.mpr ⟨?_, ?_⟩
  · exact Or.inl (t2_mem 106 rfl rfl)
  refine List.forall_mem_cons.mpr ⟨?_, ?_⟩
  · exact Or.inl (t2_mem 97 rfl rfl)
  refine List.forall_mem_cons.mpr ⟨?_, ?_⟩
  · exact Or.inl (t2_mem 98 rfl rfl)
  refine List.forall_mem_cons.mpr ⟨?_, ?_⟩
  · exact Or.inl (t2_mem 99 rfl rfl)
  refine List.forall_mem_cons.mpr ⟨?_, ?_⟩
  · exact Or.inl (t2_mem 47 rfl rfl)
  refine List.forall_mem_cons.mpr ⟨?_, ?_⟩
  · exact Or.inl (t2_mem 100 rfl rfl)
  refine List.forall_mem_cons.mpr ⟨?_, ?_⟩
  · exact Or.inl (t2_mem 101 rfl rfl)
  refine List.forall_mem_cons.mpr ⟨?_, ?_⟩
  · exact Or.inl (t2_mem 102 rfl rfl)
  refine List.forall_mem_cons.mpr ⟨?_, ?_⟩
  · exact Or.inl (t2_mem 103 rfl rfl)
  refine List.forall_mem_cons.mpr ⟨?_, ?_⟩
  · exact Or.inr (by simp [thAtoms, Bundle.tN, Bundle.steD, Bundle.listD])
  refine List.forall_mem_cons.mpr ⟨?_, ?_⟩
  · exact Or.inr (by simp [thAtoms, Bundle.tN, Bundle.steD, Bundle.listD])
  refine List.forall_mem_cons.mpr ⟨?_, ?_⟩
  · exact Or.inl (t2_mem 34 rfl rfl)
  refine List.forall_mem_cons.mpr ⟨?_, ?_⟩
  · exact Or.inl (t2_mem 33 rfl rfl)
  refine List.forall_mem_cons.mpr ⟨?_, ?_⟩
  · exact Or.inl (t2_mem 104 rfl rfl)
  exact List.forall_mem_nil _
theorem own_IAE : ∀ a ∈ Bundle.ownAtoms "PairedField" 72 "java/lang/IllegalArgumentException" up2, a ∈ Ttab ∨ a ∈ thAtoms := by
  refine List.forall_mem_cons.mpr ⟨?_, ?_⟩
  · exact Or.inl (t1_mem 6 rfl rfl)
  refine List.forall_mem_cons.mpr ⟨?_, ?_⟩
  · exact Or.inl (t2_mem 35 rfl rfl)
  refine List.forall_mem_cons.mpr ⟨?_, ?_⟩
  · exact Or.inl (t2_mem 44 rfl rfl)
  refine List.forall_mem_cons.mpr ⟨?_, ?_⟩
  · exact Or.inl (t2_mem 49 rfl rfl)
  refine List.forall_mem_cons.mpr ⟨?_, ?_⟩
  · exact Or.inl (t2_mem 52 rfl rfl)
  refine List.forall_mem_cons.mpr ⟨?_, ?_⟩
  · exact Or.inl (t2_mem 54 rfl rfl)
  refine List.forall_mem_cons.mpr ⟨?_, ?_⟩
  · exact Or.inl (t2_mem 36 rfl rfl)
  refine List.forall_mem_cons.mpr ⟨?_, ?_⟩
  · exact Or.inl (t2_mem 37 rfl rfl)
  refine List.forall_mem_cons.mpr ⟨?_, ?_⟩
  · exact Or.inl (t1_mem 22 rfl rfl)
  refine List.forall_mem_cons.mpr ⟨?_, ?_⟩
  · exact Or.inl (t1_mem 23 rfl rfl)
  refine List.forall_mem_cons.mpr ⟨?_, ?_⟩
  · exact Or.inl (t2_mem 38 rfl rfl)
  refine List.forall_mem_cons.mpr ⟨?_, ?_⟩
  · exact Or.inl (t2_mem 43 rfl rfl)
  refine List.forall_mem_cons.mpr ⟨?_, ?_⟩
  · exact Or.inl (t2_mem 50 rfl rfl)
  refine List.forall_mem_cons.mpr ⟨?_, ?_⟩
  · exact Or.inl (t2_mem 70 rfl rfl)
  refine List.forall_mem_cons.mpr ⟨?_, ?_⟩
  · exact Or.inl (t2_mem 25 rfl rfl)
  refine List.forall_mem_cons.mpr ⟨?_, ?_⟩
  · exact Or.inl (t2_mem 71 rfl rfl)
  refine List.forall_mem_cons.mpr ⟨?_, ?_⟩
  · exact Or.inl (t2_mem 27 rfl rfl)
  refine List.forall_mem_cons.mpr ⟨?_, ?_⟩
  · exact Or.inl (t2_mem 72 rfl rfl)
  refine List.forall_mem_cons.mpr ⟨?_, ?_⟩
  · exact Or.inl (t2_mem 29 rfl rfl)
  refine List.forall_mem_cons.mpr ⟨?_, ?_⟩
  · exact Or.inl (t2_mem 39 rfl rfl)
  refine List.forall_mem_cons.mpr ⟨?_, ?_⟩
  · exact Or.inr (by simp [thAtoms, Bundle.tN, Bundle.steD, Bundle.listD])
  refine List.forall_mem_cons.mpr ⟨?_, ?_⟩
  · exact Or.inl (t2_mem 41 rfl rfl)
  refine List.forall_mem_cons.mpr ⟨?_, ?_⟩
  · exact Or.inr (by simp [thAtoms, Bundle.tN, Bundle.steD, Bundle.listD])
  refine List.forall_mem_cons.mpr ⟨?_, ?_⟩
  · exact Or.inl (t2_mem 31 rfl rfl)
  refine List.forall_mem_cons.mpr ⟨?_, ?_⟩
  · exact Or.inl (t2_mem 66 rfl rfl)
  refine List.forall_mem_cons.mpr ⟨?_, ?_⟩
  · exact Or.inl (t2_mem 67 rfl rfl)
  refine List.forall_mem_cons.mpr ⟨?_, ?_⟩
  · exact Or.inl (t2_mem 69 rfl rfl)
  refine List.forall_mem_cons.mpr ⟨?_, ?_⟩
  · exact Or.inl (t2_mem 31 rfl rfl)
  refine List.forall_mem_cons.mpr ⟨?_, ?_⟩
  · exact Or.inl (t2_mem 147 rfl rfl)
  refine List.forall_mem_cons.mpr ⟨?_, ?_⟩
  · exact Or.inl (t2_mem 148 rfl rfl)
  refine List.forall_mem_cons.mpr ⟨?_, ?_⟩
  · exact Or.inl (t2_mem 149 rfl rfl)
  refine List.forall_mem_cons.mpr ⟨?_, ?_⟩
  · exact Or.inl (t2_mem 60 rfl rfl)
  refine List.forall_mem_cons.mpr ⟨?_, ?_⟩
  · exact Or.inl (t2_mem 17 rfl rfl)
  refine List.forall_mem_cons.mpr ⟨?_, ?_⟩
  · exact Or.inl (t2_mem 60 rfl rfl)
  refine List.forall_mem_cons.mpr ⟨?_, ?_⟩
  · exact Or.inl (t2_mem 61 rfl rfl)
  refine List.forall_mem_cons.mpr ⟨?_, ?_⟩
  · exact Or.inl (t2_mem 62 rfl rfl)
  refine List.forall_mem_cons.mpr ⟨?_, ?_⟩
  · exact Or.inl (t2_mem 63 rfl rfl)
  refine List.forall_mem_cons.mpr ⟨?_, ?_⟩
  · exact Or.inl (t2_mem 19 rfl rfl)
  refine List.forall_mem_cons.mpr ⟨?_, ?_⟩
  · exact Or.inl (t2_mem 63 rfl rfl)
  refine List.forall_mem_cons.mpr ⟨?_, ?_⟩
  · exact Or.inl (t2_mem 64 rfl rfl)
  refine List.forall_mem_cons.mpr ⟨?_, ?_⟩
  · exact Or.inl (t2_mem 65 rfl rfl)
  refine List.forall_mem_cons.mpr ⟨?_, ?_⟩
  · exact Or.inl (t2_mem 66 rfl rfl)
  refine List.forall_mem_cons.mpr ⟨?_, ?_⟩
  · exact Or.inl (t2_mem 21 rfl rfl)
  refine List.forall_mem_cons.mpr ⟨?_, ?_⟩
  · exact Or.inl (t2_mem 146 rfl rfl)
  refine List.forall_mem_cons.mpr ⟨?_, ?_⟩
  · exact Or.inl (t2_mem 137 rfl rfl)
  refine List.forall_mem_cons.mpr ⟨?_, ?_⟩
  · exact Or.inl (t2_mem 138 rfl rfl)
  refine List.forall_mem_cons.mpr ⟨?_, ?_⟩
  · exact Or.inl (t2_mem 139 rfl rfl)
  refine List.forall_mem_cons.mpr ⟨?_, ?_⟩
  · exact Or.inl (t2_mem 46 rfl rfl)
  refine List.forall_mem_cons.mpr ⟨?_, ?_⟩
  · exact Or.inl (t2_mem 140 rfl rfl)
  refine List.forall_mem_cons.mpr ⟨?_, ?_⟩
  · exact Or.inl (t2_mem 141 rfl rfl)
  refine List.forall_mem_cons.mpr ⟨?_, ?_⟩
  · exact Or.inl (t2_mem 142 rfl rfl)
  refine List.forall_mem_cons.mpr ⟨?_, ?_⟩
  · exact Or.inl (t2_mem 143 rfl rfl)
  refine List.forall_mem_cons.mpr ⟨?_, ?_⟩
  · exact Or.inr (by simp [thAtoms, Bundle.tN, Bundle.steD, Bundle.listD])
  refine List.forall_mem_cons.mpr ⟨?_, ?_⟩
  · exact Or.inr (by simp [thAtoms, Bundle.tN, Bundle.steD, Bundle.listD])
  refine List.forall_mem_cons.mpr ⟨?_, ?_⟩
  · exact Or.inl (t2_mem 34 rfl rfl)
  refine List.forall_mem_cons.mpr ⟨?_, ?_⟩
  · exact Or.inl (t2_mem 33 rfl rfl)
  refine List.forall_mem_cons.mpr ⟨?_, ?_⟩
  · exact Or.inl (t2_mem 144 rfl rfl)
  exact List.forall_mem_nil _
