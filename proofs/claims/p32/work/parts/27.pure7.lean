/-! pure 7: further facts for the reference's calls -/
theorem hvB_rel {w : Nat → Nat} {cnt : Nat} {L : Nat → Nat} (hL : ∀ k, L k < 4096) : ∀ k, ((hvB (fun z => wOf w cnt (L z)) L k).1 = none ∧ (hvB (fun z => wOf w cnt (L z)) L k).2 = none) ∨ ∃ b, b < 4096 ∧ (hvB (fun z => wOf w cnt (L z)) L k).1 = some b ∧ (hvB (fun z => wOf w cnt (L z)) L k).2 = some (wOf w cnt b)
  | 0 => Or.inl ⟨rfl, rfl⟩
  | k + 1 => by
    unfold hvB
    split
    · exact Or.inr ⟨L k, hL k, rfl, rfl⟩
    · exact hvB_rel hL k
theorem hvB_lt1 {W L : Nat → Nat} (hL : ∀ k, L k < 4096) : ∀ k m, (hvB W L k).1 = some m → m < 4096
  | 0, m, h => by cases h
  | k + 1, m, h => by
    unfold hvB at h
    split at h
    · cases h; exact hL k
    · exact hvB_lt1 hL k m h
theorem yL_lt {sr tg : Nat → Nat} {pr c : Nat} (hc : c ≤ 12) (k i : Nat) : gl (yL sr tg pr c k) i < 4096 := by
  have h := cnt_p12 hc
  have hp : 0 < 2 ^ c := Nat.two_pow_pos c
  have hs : ∀ P, gl (sel P (2 ^ c)) i < 4096 := fun P => Nat.lt_of_lt_of_le (sel_lt P _ i hp) h
  have h1 : ∀ x, x < 4096 → gl [x] i < 4096 := fun x hx => gl_mem (P := fun z => z < 4096) (by decide) (fun y hy => by rw [List.mem_singleton.mp hy]; exact hx) i
  unfold yL LK
  split
  · exact hs _
  · exact h1 _ (grw_lt _ _ _ _)
  · exact hs _
  · exact hs _
  · exact hs _
  · exact hs _
  · refine h1 _ ?_
    have h2 : idU (mI sr tg pr c) (2 ^ c) < 2 ^ c := by
      have key : ∀ k, 0 < k → idU (mI sr tg pr c) k < k := by
        intro k hk
        induction k with
        | zero => exact absurd hk (Nat.lt_irrefl 0)
        | succ k ih =>
          unfold idU
          split
          · exact Nat.lt_succ_self k
          · exact Nat.lt_succ_of_le (idU_lt _ k)
      exact key _ hp
    exact Nat.lt_of_lt_of_le h2 h
  · exact gl_mem (P := fun z => z < 4096) (by decide) (fun y hy => absurd hy List.not_mem_nil) i
