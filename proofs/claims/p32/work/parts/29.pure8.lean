/-! pure 8: repair, ways, silence of the reference -/
theorem rpS_sub {w sr tg : Nat → Nat} {cnt y i : Nat} (h : (rpS w sr tg cnt y).testBit i = true) : y.testBit i = true := by
  unfold rpS at h
  split at h
  · exact h
  · rw [sw_tb] at h
    split at h
    · cases h
    · exact h
theorem rpA_sub {w sr tg : Nat → Nat} {cnt y i : Nat} : ∀ {k : Nat}, (rpA w sr tg cnt k y).testBit i = true → y.testBit i = true
  | 0, h => h
  | k + 1, h => rpA_sub (k := k) (rpS_sub h)
theorem rpA_some {w sr tg : Nat → Nat} {cnt x k : Nat} (hx : x < 2 ^ cnt) (hn : rpA w sr tg cnt k x &&& hit tg (rpA w sr tg cnt k x) ≠ 0) : ∃ v, (mqB w (mqQ sr tg (rpA w sr tg cnt k x)) (rpA w sr tg cnt k x) cnt).2 = some v ∧ (rpA w sr tg cnt k x).testBit (mqW w sr tg cnt (rpA w sr tg cnt k x)) = true := by
  apply mqB_some
  apply Classical.byContradiction
  intro hno
  apply hn
  have hz : rpA w sr tg cnt k x = 0 := by
    apply Nat.eq_of_testBit_eq
    intro i
    rw [Nat.zero_testBit]
    cases hq : (rpA w sr tg cnt k x).testBit i
    · rfl
    · exfalso
      refine hno ⟨i, ?_, hq⟩
      apply Nat.lt_of_not_le
      intro h
      have := rpA_sub hq
      rw [tb_lt hx h] at this
      cases this
  rw [hz, Nat.zero_and]
theorem rpA_12 {w sr tg : Nat → Nat} {cnt x : Nat} (hc : cnt ≤ 12) (hx : x < 2 ^ cnt) : rpA w sr tg cnt 12 x &&& hit tg (rpA w sr tg cnt 12 x) = 0 := by
  apply Classical.byContradiction
  intro hn
  have hx2 : x < 4096 := Nat.lt_of_lt_of_le hx (cnt_p12 hc)
  have hfix : rpS w sr tg cnt (rpA w sr tg cnt 12 x) = rpA w sr tg cnt 12 x := itN_dec (F := rpS w sr tg cnt) hx2 (fun y hy => rpS_lt hc hy) (fun y _ i hi => rpS_sub hi)
  obtain ⟨v, -, hb⟩ := rpA_some hx hn
  rw [rpS_not hn] at hfix
  have h2 := congrArg (fun z => z.testBit (mqW w sr tg cnt (rpA w sr tg cnt 12 x))) hfix
  simp only [sw_tb, if_true] at h2
  rw [hb] at h2
  cases h2
theorem rpA_fix {w sr tg : Nat → Nat} {cnt x k : Nat} (h : rpA w sr tg cnt k x &&& hit tg (rpA w sr tg cnt k x) = 0) (hk : k ≤ 12) : rpA w sr tg cnt 12 x = rpA w sr tg cnt k x := itN_fix (rpS_free h) hk
theorem gpa_fix {sr tg : Nat → Nat} {pr x k : Nat} (h : ldf (gpa sr tg pr k x) (gby sr tg pr (gpa sr tg pr k x)) = 0) (hk : k ≤ 12) : gpa sr tg pr 12 x = gpa sr tg pr k x := itN_fix (F := fun x => x &&& gby sr tg pr x) (ldf_and.mp h) hk
def rcq (tg : Nat → Nat) (q a : Nat) : Nat := if q = 0 then (rchE tg a 24).1 else if q = 1 then (rchE tg a 24).2 else (rchE tg a 24).1 ||| (rchE tg a 24).2
theorem rcq_lt {tg : Nat → Nat} (h : ∀ k, tg k < 4096) (q a : Nat) : rcq tg q a < 4096 := by
  unfold rcq
  split
  · exact (rchE_lt h 24).1
  · split
    · exact (rchE_lt h 24).2
    · exact or12 (rchE_lt h 24).1 (rchE_lt h 24).2
def slM (wt mk : Nat → Nat) (pr tol v z : Nat) : Bool := pr.testBit v && ((ldf z pr == 0) && (!z.testBit v && (grw (srO (wkb wt mk (ldf pr z) tol)) (tgO (wkb wt mk (ldf pr z) tol)) (ldf pr z) 12).testBit v))
theorem slU_none {ok : Nat → Bool} (h : ∀ k, ok k = false) : ∀ n, slU ok n = none
  | 0 => rfl
  | n + 1 => by rw [slU_f1 (h n)]; exact slU_none h n
theorem slU_lt {ok : Nat → Bool} : ∀ {n b : Nat}, slU ok n = some b → b < n
  | 0, b, h => by cases h
  | n + 1, b, h => by
    unfold slU at h
    split at h
    · cases h; exact Nat.lt_succ_self n
    · exact Nat.lt_succ_of_lt (slU_lt h)
theorem fst0_end {p : Nat → Bool} {k n : Nat} (hf : fst0 p k = k) (hk : k ≤ n) (hp : p k = true) : fst0 p n = k := by
  rcases Nat.lt_or_eq_of_le hk with q | q
  · exact fst0_y hf hp q
  · rw [← q, hf]
