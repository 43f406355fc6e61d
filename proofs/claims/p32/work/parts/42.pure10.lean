/-! pure 10: both sides' answers, one by one -/
/-- what is known of the two rows: who is attacked by whom, both ways; only what is in the debate -/
def wOK (sr tg : Nat → Nat) (pr : Nat) : Prop := (∀ a b, (sr b).testBit a = (tg a).testBit b) ∧ ∀ a b, (tg a).testBit b = true → pr.testBit a = true ∧ pr.testBit b = true
theorem wOK_of {wt mk : Nat → Nat} {pr tol : Nat} (hp : pr < 4096) : wOK (srO (wkb wt mk pr tol)) (tgO (wkb wt mk pr tol)) pr := by
  have hw : ∀ a b, wkb wt mk pr tol a b = true → pr.testBit a = true ∧ pr.testBit b = true := fun a b h => by
    rw [wkb_eq, Bool.and_eq_true, Bool.and_eq_true] at h
    exact ⟨h.1, h.2.1⟩
  have h12 : ∀ i, pr.testBit i = true → i < 12 := fun i h => by
    by_cases q : i < 12
    · exact q
    · rw [tb12 hp (Nat.le_of_not_lt q)] at h; exact absurd h (by decide)
  refine ⟨fun a b => ?_, fun a b h => ?_⟩
  · unfold srO tgO
    rw [mks_tb, mks_tb]
    cases hq : wkb wt mk pr tol a b
    · simp
    · rw [decide_eq_true (h12 a (hw a b hq).1), decide_eq_true (h12 b (hw a b hq).2)]
  · unfold tgO at h
    rw [mks_tb, Bool.and_eq_true] at h
    exact hw a b h.2
section P10
variable {sr tg : Nat → Nat} {pr cnt : Nat}
theorem in_cnt (hp : pr < 2 ^ cnt) {i : Nat} (h : pr.testBit i = true) : i < cnt := by
  by_cases q : i < cnt
  · exact q
  · rw [tb_lt hp (Nat.le_of_not_lt q)] at h; exact absurd h (by decide)
theorem bz {n : Nat} (h : ∀ i, n.testBit i = false) : n = 0 := Nat.eq_of_testBit_eq (fun i => by rw [h, Nat.zero_testBit])
theorem tg_out (hw : wOK sr tg pr) {a : Nat} (h : pr.testBit a = false) : tg a = 0 := bz (fun i => by
  cases hq : (tg a).testBit i
  · rfl
  · rw [(hw.2 a i hq).1] at h; exact absurd h (by decide))
theorem sr_out (hw : wOK sr tg pr) {a : Nat} (h : pr.testBit a = false) : sr a = 0 := bz (fun i => by
  cases hq : (sr a).testBit i
  · rfl
  · rw [hw.1] at hq; rw [(hw.2 i a hq).2] at h; exact absurd h (by decide))
theorem pcU_sum (n : Nat) : ∀ k, pcU n k = sumU (fun i => (n.testBit i).toNat) k
  | 0 => rfl
  | k + 1 => by
    show pcU n (k + 1) = sumU (fun i => (n.testBit i).toNat) k + (n.testBit k).toNat
    rw [← pcU_sum n k]
    rfl
theorem sumU_cut {f : Nat → Nat} {n : Nat} (h : ∀ k, n ≤ k → f k = 0) : ∀ {m : Nat}, n ≤ m → sumU f m = sumU f n
  | 0, hm => by rw [show n = 0 by omega]
  | m + 1, hm => by
    by_cases e : n = m + 1
    · rw [e]
    · show sumU f m + f m = sumU f n
      rw [h m (by omega), sumU_cut h (m := m) (by omega)]; rfl
theorem sumU_add (f f' : Nat → Nat) : ∀ n, sumU (fun k => f k + f' k) n = sumU f n + sumU f' n
  | 0 => rfl
  | n + 1 => by
    show sumU (fun k => f k + f' k) n + (f n + f' n) = (sumU f n + f n) + (sumU f' n + f' n)
    rw [sumU_add f f' n]; omega
theorem sumU_zero : ∀ n, sumU (fun _ => 0) n = 0
  | 0 => rfl
  | n + 1 => sumU_zero n
theorem sumU_swap (f : Nat → Nat → Nat) (n : Nat) : ∀ m, sumU (fun a => sumU (fun b => f a b) n) m = sumU (fun b => sumU (fun a => f a b) m) n
  | 0 => (sumU_zero n).symm
  | m + 1 => by
    show sumU (fun a => sumU (fun b => f a b) n) m + sumU (fun b => f m b) n = sumU (fun b => sumU (fun a => f a b) m + f m b) n
    rw [sumU_add, sumU_swap f n m]
theorem e_count (hw : wOK sr tg pr) (hc : cnt ≤ 12) (hp : pr < 2 ^ cnt) : sumU (fun a => pc (sr a)) cnt = sumU (fun a => pc (tg a)) cnt := by
  have c1 : sumU (fun a => pc (sr a)) 12 = sumU (fun a => pc (sr a)) cnt := sumU_cut (fun k hk => by show pc (sr k) = 0; rw [sr_out hw (tb_lt hp hk)]; rfl) hc
  have c2 : sumU (fun a => pc (tg a)) 12 = sumU (fun a => pc (tg a)) cnt := sumU_cut (fun k hk => by show pc (tg k) = 0; rw [tg_out hw (tb_lt hp hk)]; rfl) hc
  rw [← c1, ← c2]
  have e1 : (fun a => pc (sr a)) = fun b => sumU (fun a => ((tg a).testBit b).toNat) 12 := funext fun b => by
    show pcU (sr b) 12 = _
    rw [pcU_sum]
    exact sumU_ext (fun k _ => by rw [hw.1])
  have e2 : (fun a => pc (tg a)) = fun a => sumU (fun b => ((tg a).testBit b).toNat) 12 := funext fun a => pcU_sum (tg a) 12
  rw [e1, e2, sumU_swap]
theorem e_free (n : Nat) : (n &&& hit tg n == 0) = (hit tg n &&& n == 0) := by rw [Nat.and_comm]
theorem and_0 {a b : Nat} : a &&& b = 0 ↔ ∀ i, a.testBit i = true → b.testBit i = true → False := by
  constructor
  · intro h i h1 h2
    have := congrArg (fun z => z.testBit i) h
    simp [Nat.testBit_and, h1, h2] at this
  · intro h
    refine bz (fun i => ?_)
    rw [Nat.testBit_and]
    cases h1 : a.testBit i
    · rfl
    · cases h2 : b.testBit i
      · rfl
      · exact (h i h1 h2).elim
theorem hit_sr (hw : wOK sr tg pr) (hp : pr < 4096) {n v : Nat} : (hit tg n).testBit v = true ↔ sr v &&& n ≠ 0 := by
  rw [hit_tb]
  constructor
  · rintro ⟨j, hj, h1, h2⟩ h0
    exact and_0.mp h0 j (by rw [hw.1]; exact h2) h1
  · intro h
    by_cases q : ∃ j, j < 12 ∧ n.testBit j = true ∧ (tg j).testBit v = true
    · exact q
    · refine absurd (and_0.mpr (fun i h1 h2 => ?_)) h
      rw [hw.1] at h1
      exact q ⟨i, in_cnt (cnt := 12) hp (hw.2 i v h1).1, h2, h1⟩
theorem e_label (hw : wOK sr tg pr) (hp : pr < 4096) (n v : Nat) : ((n &&& pr).testBit v).toNat ||| (if sr v &&& (n &&& pr) = 0 then 0 else 2) = (if pr.testBit v then (n.testBit v).toNat + (if (hit tg (n &&& pr)).testBit v then 2 else 0) else 0) := by
  cases hv : pr.testBit v
  · have e1 : (n &&& pr).testBit v = false := by rw [Nat.testBit_and, hv, Bool.and_false]
    rw [e1, sr_out hw hv, Nat.zero_and]
    rfl
  · have e1 : (n &&& pr).testBit v = n.testBit v := by rw [Nat.testBit_and, hv, Bool.and_true]
    rw [e1]
    by_cases h : sr v &&& (n &&& pr) = 0
    · have e2 : (hit tg (n &&& pr)).testBit v = false := by
        cases hq : (hit tg (n &&& pr)).testBit v
        · rfl
        · exact absurd h ((hit_sr hw hp).mp hq)
      rw [if_pos h, e2]
      cases n.testBit v <;> rfl
    · have e2 : (hit tg (n &&& pr)).testBit v = true := (hit_sr hw hp).mpr h
      rw [if_neg h, e2]
      cases n.testBit v <;> rfl
-- ===== ways of an even and of an odd number of steps =====
theorem hit_or_sub {n z i : Nat} : (n ||| z).testBit i = true ↔ n.testBit i = true ∨ z.testBit i = true := by rw [Nat.testBit_or, Bool.or_eq_true]
theorem rch_sub (tg : Nat → Nat) (a : Nat) : ∀ (k i : Nat), (hit tg (rchE tg a k).1).testBit i = true → (rchE tg a k).2.testBit i = true
  | 0, i, h => by
    have h2 : (hit tg 0).testBit i = true := h
    rw [hit_0, Nat.zero_testBit] at h2
    exact absurd h2 (by decide)
  | k + 1, i, h => by
    show ((rchE tg a k).2 ||| hit tg ((rchE tg a k).1 ||| hit tg (rchE tg a k).2)).testBit i = true
    rw [hit_or_sub]
    exact Or.inr h
theorem or_abs {a b : Nat} (h : ∀ i, b.testBit i = true → a.testBit i = true) : a ||| b = a := by
  apply Nat.eq_of_testBit_eq
  intro i
  rw [Nat.testBit_or]
  cases hb : b.testBit i
  · rw [Bool.or_false]
  · rw [h i hb]; rfl
theorem rch_stop {tg : Nat → Nat} {a k : Nat} (h : (rchE tg a (k + 1)).1 = (rchE tg a k).1) : rchE tg a (k + 1) = rchE tg a k := by
  refine Prod.ext h ?_
  show (rchE tg a k).2 ||| hit tg (rchE tg a (k + 1)).1 = (rchE tg a k).2
  rw [h]
  exact or_abs (rch_sub tg a k)
theorem rch_fix {tg : Nat → Nat} {a k : Nat} (h : rchE tg a (k + 1) = rchE tg a k) : ∀ {m : Nat}, k ≤ m → rchE tg a m = rchE tg a k
  | 0, hm => by rw [show k = 0 by omega]
  | m + 1, hm => by
    by_cases e : k = m + 1
    · rw [e]
    · have ih := rch_fix h (m := m) (by omega)
      have e1 : rchE tg a (m + 1) = ((rchE tg a m).1 ||| hit tg (rchE tg a m).2, (rchE tg a m).2 ||| hit tg ((rchE tg a m).1 ||| hit tg (rchE tg a m).2)) := rfl
      rw [e1, ih]
      exact h
theorem rch_grow {tg : Nat → Nat} (ht : ∀ k, tg k < 4096) (a : Nat) : ∀ k, k ≤ pc (rchE tg a k).1 ∨ ∃ j, j < k ∧ rchE tg a (j + 1) = rchE tg a j
  | 0 => Or.inl (Nat.zero_le _)
  | k + 1 => by
    rcases rch_grow ht a k with h | ⟨j, hj, h⟩
    · by_cases e : (rchE tg a (k + 1)).1 = (rchE tg a k).1
      · exact Or.inr ⟨k, Nat.lt_succ_self k, rch_stop e⟩
      · refine Or.inl (Nat.lt_of_le_of_lt h (pc_lt_of (rchE_lt ht (k + 1)).1 (fun i hi => ?_) (fun q => e q.symm)))
        show ((rchE tg a k).1 ||| hit tg (rchE tg a k).2).testBit i = true
        exact hit_or_sub.mpr (Or.inl hi)
    · exact Or.inr ⟨j, by omega, h⟩
theorem rch_24 {tg : Nat → Nat} (ht : ∀ k, tg k < 4096) (a : Nat) : rchE tg a 24 = rchE tg a 12 := by
  rcases rch_grow ht a 13 with h | ⟨j, hj, h⟩
  · have := pc_le (rchE tg a 13).1
    omega
  · rw [rch_fix h (m := 24) (by omega), rch_fix h (m := 12) (by omega)]
theorem e_rch0 {tg : Nat → Nat} (ht : ∀ k, tg k < 4096) (a : Nat) : rchv tg true a = rcq tg 0 a := by
  show (rchE tg a 12).1 = (rchE tg a 24).1
  rw [rch_24 ht]
theorem e_rch1 {tg : Nat → Nat} (ht : ∀ k, tg k < 4096) (a : Nat) : rchv tg false a = rcq tg 1 a := by
  show (rchE tg a 12).2 = (rchE tg a 24).2
  rw [rch_24 ht]
theorem e_rch2 {tg : Nat → Nat} (ht : ∀ k, tg k < 4096) (a : Nat) : rchv tg true a ||| rchv tg false a = rcq tg 2 a := by
  show (rchE tg a 12).1 ||| (rchE tg a 12).2 = (rchE tg a 24).1 ||| (rchE tg a 24).2
  rw [rch_24 ht]
end P10
