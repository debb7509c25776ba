/-- tokens, for omega -/
theorem tT0 {c t v : Int} (h : tTk 0 c t v) : (t = 0 ∧ c = 0) ∨ (t = 3 ∧ 0 ≤ v ∧ v ≤ 9999 ∧ c = 1000 + v) ∨ (t = 4 ∧ 40 ≤ v ∧ v ≤ 62 ∧ c = v) ∨ (t = 2 ∧ 0 ≤ v ∧ v ≤ 16 ∧ c = 200 + v) ∨ (t = 2 ∧ 17 ≤ v ∧ v ≤ 26 ∧ c = 1) ∨ (t = 1 ∧ c = 1) := by
  rcases h with a | ⟨a, b, d⟩ | ⟨a, b, d⟩ | ⟨a, b, d⟩ | a
  · exact Or.inl a
  · exact Or.inr (Or.inl ⟨a, b.1, b.2, d⟩)
  · have b' : tSg v := b
    exact Or.inr (Or.inr (Or.inl ⟨a, by omega, by omega, d⟩))
  · have k := tKw_0 d
    rcases k with k | ⟨k, k9⟩ | ⟨k, k9⟩ | ⟨k, k9⟩ | ⟨k, k9⟩ | ⟨k, k9⟩ | ⟨k, k9⟩ | ⟨k, k9⟩ | ⟨k, k9⟩ | ⟨k, k9⟩ | ⟨k, k9⟩ | ⟨k, k9⟩ | ⟨k, k9⟩ | ⟨k, k9⟩ | ⟨k, k9⟩ | ⟨k, k9⟩ | ⟨k, k9⟩ | ⟨k, k9⟩
    · have z : 17 ≤ v := by
        have b1 := b.1
        clear b d
        omega
      exact Or.inr (Or.inr (Or.inr (Or.inr (Or.inl ⟨a, z, by omega, k.1⟩))))
    · exact Or.inr (Or.inr (Or.inr (Or.inl ⟨a, b.1, by omega, by omega⟩)))
    · exact Or.inr (Or.inr (Or.inr (Or.inl ⟨a, b.1, by omega, by omega⟩)))
    · exact Or.inr (Or.inr (Or.inr (Or.inl ⟨a, b.1, by omega, by omega⟩)))
    · exact Or.inr (Or.inr (Or.inr (Or.inl ⟨a, b.1, by omega, by omega⟩)))
    · exact Or.inr (Or.inr (Or.inr (Or.inl ⟨a, b.1, by omega, by omega⟩)))
    · exact Or.inr (Or.inr (Or.inr (Or.inl ⟨a, b.1, by omega, by omega⟩)))
    · exact Or.inr (Or.inr (Or.inr (Or.inl ⟨a, b.1, by omega, by omega⟩)))
    · exact Or.inr (Or.inr (Or.inr (Or.inl ⟨a, b.1, by omega, by omega⟩)))
    · exact Or.inr (Or.inr (Or.inr (Or.inl ⟨a, b.1, by omega, by omega⟩)))
    · exact Or.inr (Or.inr (Or.inr (Or.inl ⟨a, b.1, by omega, by omega⟩)))
    · exact Or.inr (Or.inr (Or.inr (Or.inl ⟨a, b.1, by omega, by omega⟩)))
    · exact Or.inr (Or.inr (Or.inr (Or.inl ⟨a, b.1, by omega, by omega⟩)))
    · exact Or.inr (Or.inr (Or.inr (Or.inl ⟨a, b.1, by omega, by omega⟩)))
    · exact Or.inr (Or.inr (Or.inr (Or.inl ⟨a, b.1, by omega, by omega⟩)))
    · exact Or.inr (Or.inr (Or.inr (Or.inl ⟨a, b.1, by omega, by omega⟩)))
    · exact Or.inr (Or.inr (Or.inr (Or.inl ⟨a, b.1, by omega, by omega⟩)))
    · exact Or.inr (Or.inr (Or.inr (Or.inl ⟨a, b.1, by omega, by omega⟩)))
  · exact Or.inr (Or.inr (Or.inr (Or.inr (Or.inr a))))
theorem tT2 {c t v : Int} (h : tTk 2 c t v) : (t = 0 ∧ c = 0) ∨ (t = 3 ∧ 0 ≤ v ∧ v ≤ 9999 ∧ c = 1000 + v) ∨ (t = 4 ∧ 40 ≤ v ∧ v ≤ 62 ∧ c = v) ∨ (t = 2 ∧ 17 ≤ v ∧ v ≤ 20 ∧ c = 183 + v) ∨ (t = 2 ∧ (v < 17 ∨ 20 < v) ∧ c = 1) ∨ (t = 1 ∧ c = 1) := by
  rcases h with a | ⟨a, b, d⟩ | ⟨a, b, d⟩ | ⟨a, b, d⟩ | a
  · exact Or.inl a
  · exact Or.inr (Or.inl ⟨a, b.1, b.2, d⟩)
  · have b' : tSg v := b
    exact Or.inr (Or.inr (Or.inl ⟨a, by omega, by omega, d⟩))
  · have k := tKw_2 d
    by_cases z : 17 ≤ v ∧ v ≤ 20
    · exact Or.inr (Or.inr (Or.inr (Or.inl ⟨a, z.1, z.2, by omega⟩)))
    · exact Or.inr (Or.inr (Or.inr (Or.inr (Or.inl ⟨a, by omega, by omega⟩))))
  · exact Or.inr (Or.inr (Or.inr (Or.inr (Or.inr a))))
theorem tT3 {c t v : Int} (h : tTk 3 c t v) : (t = 0 ∧ c = 0) ∨ (t = 3 ∧ 0 ≤ v ∧ v ≤ 9999 ∧ c = 1000 + v) ∨ (t = 4 ∧ 40 ≤ v ∧ v ≤ 62 ∧ c = v) ∨ (t = 2 ∧ ((v = 17 ∧ c = 200) ∨ (v = 21 ∧ c = 201) ∨ (v = 23 ∧ c = 202) ∨ (v = 14 ∧ c = 203) ∨ (v = 24 ∧ c = 204) ∨ (v = 25 ∧ c = 205) ∨ (v = 26 ∧ c = 206) ∨ (¬ v = 17 ∧ ¬ v = 21 ∧ ¬ v = 23 ∧ ¬ v = 14 ∧ ¬ v = 24 ∧ ¬ v = 25 ∧ ¬ v = 26 ∧ c = 1))) ∨ (t = 1 ∧ c = 1) := by
  rcases h with a | ⟨a, b, d⟩ | ⟨a, b, d⟩ | ⟨a, b, d⟩ | a
  · exact Or.inl a
  · exact Or.inr (Or.inl ⟨a, b.1, b.2, d⟩)
  · have b' : tSg v := b
    exact Or.inr (Or.inr (Or.inl ⟨a, by omega, by omega, d⟩))
  · have k := tKw_3 d
    refine Or.inr (Or.inr (Or.inr (Or.inl ⟨a, ?_⟩)))
    rcases k with ⟨k, k1, k2, k3, k4, k5, k6, k7⟩ | k | k | k | k | k | k | k
    · exact Or.inr (Or.inr (Or.inr (Or.inr (Or.inr (Or.inr (Or.inr (⟨k1, k2, k3, k4, k5, k6, k7, k⟩)))))))
    · exact Or.inl k
    · exact Or.inr (Or.inl k)
    · exact Or.inr (Or.inr (Or.inl k))
    · exact Or.inr (Or.inr (Or.inr (Or.inl k)))
    · exact Or.inr (Or.inr (Or.inr (Or.inr (Or.inl k))))
    · exact Or.inr (Or.inr (Or.inr (Or.inr (Or.inr (Or.inl k)))))
    · exact Or.inr (Or.inr (Or.inr (Or.inr (Or.inr (Or.inr (Or.inl k))))))
  · exact Or.inr (Or.inr (Or.inr (Or.inr a)))
theorem tT4 {c t v : Int} (h : tTk 4 c t v) : (t = 0 ∧ c = 0) ∨ (t = 3 ∧ 0 ≤ v ∧ v ≤ 9999 ∧ c = 1000 + v) ∨ (t = 4 ∧ 40 ≤ v ∧ v ≤ 62 ∧ c = v) ∨ (t = 2 ∧ ((v = 22 ∧ c = 200) ∨ (v = 15 ∧ c = 201) ∨ (¬ v = 22 ∧ ¬ v = 15 ∧ c = 1))) ∨ (t = 1 ∧ c = 1) := by
  rcases h with a | ⟨a, b, d⟩ | ⟨a, b, d⟩ | ⟨a, b, d⟩ | a
  · exact Or.inl a
  · exact Or.inr (Or.inl ⟨a, b.1, b.2, d⟩)
  · have b' : tSg v := b
    exact Or.inr (Or.inr (Or.inl ⟨a, by omega, by omega, d⟩))
  · have k := tKw_4 d
    exact Or.inr (Or.inr (Or.inr (Or.inl ⟨a, by omega⟩)))
  · exact Or.inr (Or.inr (Or.inr (Or.inr a)))
