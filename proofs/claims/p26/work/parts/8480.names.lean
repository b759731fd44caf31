theorem wid_f {y : Nat} : ∃ w, w ≤ 60 ∧ wsum (nmF y) (nSz y) = nI w := by
  have key : ∀ m, ∃ w, w ≤ 3 * m ∧ wsum (nmF y) m = nI w := by
    intro m
    induction m with
    | zero => exact ⟨0, by omega, rfl⟩
    | succ m ih =>
      obtain ⟨w, h5, h6⟩ := ih
      have hl : ∃ z, z ≤ 3 ∧ lw (nmF y m) = nI z := by
        unfold lw
        split
        · exact ⟨1, by decide, rfl⟩
        · split
          · exact ⟨1, by decide, rfl⟩
          · split
            · exact ⟨3, by decide, rfl⟩
            · split
              · exact ⟨3, by decide, rfl⟩
              · exact ⟨2, by decide, rfl⟩
      obtain ⟨z, hz, e⟩ := hl
      exact ⟨w + z, by omega, by rw [wsum, h6, e, nI_add]⟩
  obtain ⟨w, h5, h6⟩ := key (nSz y)
  have := nSz_le y
  exact ⟨w, by omega, h6⟩
/-- what an act of the law ends with: it is so, and the world stands -/
abbrev pW (μ : xM) (cn : Nat) : xPost := fun vv μ' I' P' => vv = some (.int 1) ∧ μ' = μ ∧ ∃ (S' : Nat → Int32) (n' rq' : Nat), lV I' P' S' n' rq' (cn + 1)
