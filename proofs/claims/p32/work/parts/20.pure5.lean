/-! pure 5: the reference's helpers -/
theorem wkb_eq (wt mk : Nat → Nat) (pr tol f t : Nat) : wkb wt mk pr tol f t = (pr.testBit f && (pr.testBit t && ((mk f).testBit t && decide (wt t ≤ wt f + tol)))) := by
  unfold wkb
  rw [Nat.testBit_and]
  cases pr.testBit f <;> cases pr.testBit t <;> cases (mk f).testBit t <;> cases decide (wt t ≤ wt f + tol) <;> rfl
theorem mks_cut {p : Nat → Bool} {n m : Nat} (hnm : n ≤ m) (h : ∀ i, n ≤ i → p i = false) : mks p n = mks p m := by
  apply Nat.eq_of_testBit_eq
  intro i
  rw [mks_tb, mks_tb]
  by_cases hi : i < n
  · simp [hi, Nat.lt_of_lt_of_le hi hnm]
  · rw [h i (Nat.le_of_not_lt hi)]; simp
theorem out_pr {pr cnt a : Nat} (hpc : pr < 2 ^ cnt) (h : cnt ≤ a) : pr.testBit a = false := tb_lt hpc h
theorem wk_outL {wt mk : Nat → Nat} {pr tol cnt : Nat} (hpc : pr < 2 ^ cnt) (f t : Nat) (h : cnt ≤ f) : wkb wt mk pr tol f t = false := wkb_f2 (out_pr hpc h)
theorem wk_outR {wt mk : Nat → Nat} {pr tol cnt : Nat} (hpc : pr < 2 ^ cnt) (f t : Nat) (h : cnt ≤ t) : wkb wt mk pr tol f t = false := wkb_f1 (by rw [Nat.testBit_and, out_pr hpc h, Bool.and_false])
theorem srO_cnt {wt mk : Nat → Nat} {pr tol cnt : Nat} (hc : cnt ≤ 12) (hpc : pr < 2 ^ cnt) (a : Nat) : mks (fun f => wkb wt mk pr tol f a) cnt = srO (wkb wt mk pr tol) a := mks_cut hc (fun f hf => wk_outL hpc f a hf)
theorem tgO_cnt {wt mk : Nat → Nat} {pr tol cnt : Nat} (hc : cnt ≤ 12) (hpc : pr < 2 ^ cnt) (a : Nat) : mks (fun t => wkb wt mk pr tol a t) cnt = tgO (wkb wt mk pr tol) a := mks_cut hc (fun t ht => wk_outR hpc a t ht)
theorem mks_zero {p : Nat → Bool} {n : Nat} (h : ∀ i, i < n → p i = false) : mks p n = 0 := by
  apply Nat.eq_of_testBit_eq
  intro i
  rw [mks_tb, Nat.zero_testBit]
  by_cases hi : i < n
  · rw [h i hi, Bool.and_false]
  · simp [hi]
theorem tgO_out {wt mk : Nat → Nat} {pr tol cnt : Nat} (hpc : pr < 2 ^ cnt) (j : Nat) (h : cnt ≤ j) : tgO (wkb wt mk pr tol) j = 0 := mks_zero (fun t _ => wk_outL hpc j t h)
theorem srO_out {wt mk : Nat → Nat} {pr tol cnt : Nat} (hpc : pr < 2 ^ cnt) (j : Nat) (h : cnt ≤ j) : srO (wkb wt mk pr tol) j = 0 := mks_zero (fun f _ => wk_outR hpc f j h)
/-- a row's first cells anew -/
def ovA (n : Nat) (f g : Nat → Nat) : Nat → Nat := fun j => if j < n then f j else g j
theorem ovA_0 (f g : Nat → Nat) : ovA 0 f g = g := by
  funext j
  exact if_neg (Nat.not_lt_zero j)
theorem ovA_s (f g : Nat → Nat) (k : Nat) : updN (ovA k f g) k (f k) = ovA (k + 1) f g := by
  funext j
  unfold updN ovA
  by_cases h : j = k
  · rw [if_pos h, if_pos (by omega), h]
  · rw [if_neg h]
    by_cases h2 : j < k
    · rw [if_pos h2, if_pos (by omega)]
    · rw [if_neg h2, if_neg (by omega)]
theorem ovA_in {n : Nat} {f g : Nat → Nat} {j : Nat} (h : j < n) : ovA n f g j = f j := if_pos h
theorem hitU_cut {tg : Nat → Nat} {n cnt : Nat} (hz : ∀ j, cnt ≤ j → tg j = 0) : ∀ {m : Nat}, cnt ≤ m → hitU tg n m = hitU tg n cnt
  | 0, hm => by rw [show cnt = 0 by omega]
  | m + 1, hm => by
    rcases Nat.lt_or_ge m cnt with q | q
    · rw [show cnt = m + 1 by omega]
    · show (if n.testBit m then hitU tg n m ||| tg m else hitU tg n m) = hitU tg n cnt
      rw [hitU_cut hz q, hz m q, Nat.or_zero]
      split <;> rfl
theorem safe_cnt {sr : Nat → Nat} {hi pr cnt : Nat} (hc : cnt ≤ 12) (hpc : pr < 2 ^ cnt) : mks (safeP sr hi pr) cnt = safe sr hi pr := mks_cut hc (fun a ha => safeP_f1 (out_pr hpc ha))
theorem pr12 {pr cnt : Nat} (hc : cnt ≤ 12) (hpc : pr < 2 ^ cnt) : pr < 4096 := Nat.lt_of_lt_of_le hpc (Nat.pow_le_pow_right (n := 2) (by decide) hc)
theorem cnt_p12 {cnt : Nat} (hc : cnt ≤ 12) : 2 ^ cnt ≤ 4096 := Nat.pow_le_pow_right (n := 2) (by decide) hc
-- ===== the end of growing and of shrinking =====
theorem pcU_mono {a b : Nat} (h : ∀ i, a.testBit i = true → b.testBit i = true) : ∀ k, pcU a k ≤ pcU b k
  | 0 => Nat.le_refl 0
  | k + 1 => Nat.add_le_add (pcU_mono h k) (by
    cases ha : a.testBit k
    · exact Nat.zero_le _
    · rw [h k ha]; exact Nat.le_refl _)
theorem pcU_lt {a b i : Nat} (h : ∀ i, a.testBit i = true → b.testBit i = true) (hb : b.testBit i = true) (ha : a.testBit i = false) : ∀ {k : Nat}, i < k → pcU a k < pcU b k
  | 0, hi => absurd hi (Nat.not_lt_zero i)
  | k + 1, hi => by
    unfold pcU
    rcases Nat.lt_or_eq_of_le (Nat.le_of_lt_succ hi) with q | q
    · have h1 := pcU_lt h hb ha q
      have h2 : (a.testBit k).toNat ≤ (b.testBit k).toNat := by
        cases hak : a.testBit k
        · exact Nat.zero_le _
        · rw [h k hak]; exact Nat.le_refl _
      omega
    · subst q
      have h1 := pcU_mono h i
      rw [hb, ha]
      show pcU a i + 0 < pcU b i + 1
      omega
theorem sub_ne {a b : Nat} (hb : b < 4096) (h : ∀ i, a.testBit i = true → b.testBit i = true) (hne : a ≠ b) : ∃ i, i < 12 ∧ b.testBit i = true ∧ a.testBit i = false := by
  apply Classical.byContradiction
  intro hn
  apply hne
  apply nat_tb_ext
  intro i
  refine ⟨h i, fun hbi => ?_⟩
  cases ha : a.testBit i
  · exfalso
    apply hn
    refine ⟨i, ?_, hbi, ha⟩
    apply Nat.lt_of_not_le
    intro q
    rw [tb12 hb q] at hbi
    cases hbi
  · rfl
theorem pc_lt_of {a b : Nat} (hb : b < 4096) (h : ∀ i, a.testBit i = true → b.testBit i = true) (hne : a ≠ b) : pc a < pc b := by
  obtain ⟨i, h1, h2, h3⟩ := sub_ne hb h hne
  exact pcU_lt h h2 h3 h1
/-- a shrinking step comes to rest within twelve -/
theorem itN_dec {F : Nat → Nat} {x : Nat} (hx : x < 4096) (hF : ∀ y, y < 4096 → F y < 4096) (hs : ∀ y, y < 4096 → ∀ i, (F y).testBit i = true → y.testBit i = true) : F (itN F 12 x) = itN F 12 x := by
  have e1 : ∀ k, itN F (k + 1) x = F (itN F k x) := fun _ => rfl
  have key : ∀ k, pc (itN F k x) + k ≤ 12 ∨ F (itN F k x) = itN F k x := by
    intro k
    induction k with
    | zero =>
      have := pc_le (itN F 0 x)
      exact Or.inl (by omega)
    | succ k ih =>
      have hk := itN_lt hx hF k
      rw [e1]
      by_cases e : F (itN F k x) = itN F k x
      · exact Or.inr (by rw [e, e])
      · rcases ih with h | h
        · have := pc_lt_of hk (hs _ hk) e
          exact Or.inl (by omega)
        · exact absurd h e
  have h12 : itN F 12 x < 4096 := itN_lt hx hF 12
  have k12 := key 12
  generalize itN F 12 x = z at h12 k12 ⊢
  rcases k12 with h | h
  · have h0 : pc z = 0 := by omega
    have hz : z = 0 := by
      apply Classical.byContradiction
      intro hn
      have := pc_lt_of (a := 0) h12 (fun i hi => by rw [Nat.zero_testBit] at hi; cases hi) (fun q => hn q.symm)
      omega
    have hz2 : F z = 0 := by
      apply Nat.eq_of_testBit_eq
      intro i
      rw [Nat.zero_testBit]
      cases hq : (F z).testBit i
      · rfl
      · have := hs _ h12 i hq
        rw [hz, Nat.zero_testBit] at this
        cases this
    rw [hz2, hz]
  · exact h
/-- a growing step comes to rest within twelve -/
theorem itN_inc {F : Nat → Nat} (hF : ∀ y, y < 4096 → F y < 4096) (hm : ∀ y z, y < 4096 → z < 4096 → (∀ i, y.testBit i = true → z.testBit i = true) → ∀ i, (F y).testBit i = true → (F z).testBit i = true) : F (itN F 12 0) = itN F 12 0 := by
  have hlt : ∀ k, itN F k 0 < 4096 := itN_lt (by decide) hF
  have hg : ∀ k i, (itN F k 0).testBit i = true → (itN F (k + 1) 0).testBit i = true := by
    intro k
    induction k with
    | zero => intro i hi; rw [show itN F 0 0 = 0 from rfl, Nat.zero_testBit] at hi; cases hi
    | succ k ih => exact hm _ _ (hlt k) (hlt (k + 1)) ih
  have e1 : ∀ k, itN F (k + 1) 0 = F (itN F k 0) := fun _ => rfl
  have key : ∀ k, k ≤ pc (itN F k 0) ∨ F (itN F k 0) = itN F k 0 := by
    intro k
    induction k with
    | zero => exact Or.inl (Nat.zero_le _)
    | succ k ih =>
      have h1 := hlt (k + 1)
      have h2 := hg k
      rw [e1] at h1 h2 ⊢
      by_cases e : F (itN F k 0) = itN F k 0
      · exact Or.inr (by rw [e, e])
      · rcases ih with h | h
        · have := pc_lt_of h1 h2 (fun q => e q.symm)
          exact Or.inl (by omega)
        · exact absurd h e
  have h13 : F (itN F 12 0) < 4096 := hlt 13
  have g12 : ∀ i, (itN F 12 0).testBit i = true → (F (itN F 12 0)).testBit i = true := hg 12
  have k12 := key 12
  generalize itN F 12 0 = z at h13 g12 k12 ⊢
  by_cases e : F z = z
  · exact e
  · rcases k12 with h | h
    · have h1 := pc_lt_of h13 g12 (fun q => e q.symm)
      have h2 := pc_le (F z)
      omega
    · exact h
theorem safe_tb {sr : Nat → Nat} {hi ins a : Nat} : (safe sr hi ins).testBit a = true ↔ a < 12 ∧ ins.testBit a = true ∧ ∀ i, (sr a).testBit i = true → ins.testBit i = true → hi.testBit i = true := by
  unfold safe
  rw [mks_tb, Bool.and_eq_true, decide_eq_true_iff]
  unfold safeP
  rw [Bool.and_eq_true, beq_iff_eq]
  refine and_congr_right (fun _ => and_congr_right (fun _ => ?_))
  constructor
  · intro h i h1 h2
    have := congrArg (fun z => z.testBit i) h
    simp only [Nat.testBit_and, ldf_tb, Nat.zero_testBit, h1, h2, Bool.true_and] at this
    cases hh : hi.testBit i
    · rw [hh] at this; cases this
    · rfl
  · intro h
    apply Nat.eq_of_testBit_eq
    intro i
    rw [Nat.testBit_and, ldf_tb, Nat.zero_testBit]
    cases h1 : (sr a).testBit i
    · rfl
    · cases h2 : ins.testBit i
      · rfl
      · rw [h i h1 h2]; rfl
theorem hit_mono {tg : Nat → Nat} {y z : Nat} (h : ∀ i, y.testBit i = true → z.testBit i = true) (i : Nat) (hi : (hit tg y).testBit i = true) : (hit tg z).testBit i = true := by
  obtain ⟨j, h1, h2, h3⟩ := hit_tb.mp hi
  exact hit_tb.mpr ⟨j, h1, h j h2, h3⟩
theorem gby_mono {sr tg : Nat → Nat} {ins y z : Nat} (h : ∀ i, y.testBit i = true → z.testBit i = true) (i : Nat) (hi : (gby sr tg ins y).testBit i = true) : (gby sr tg ins z).testBit i = true := by
  obtain ⟨h1, h2, h3⟩ := safe_tb.mp hi
  exact safe_tb.mpr ⟨h1, h2, fun j hj hj2 => hit_mono h j (h3 j hj hj2)⟩
theorem grw_12 (sr tg : Nat → Nat) (ins : Nat) : gby sr tg ins (grw sr tg ins 12) = grw sr tg ins 12 := itN_inc (F := fun x => gby sr tg ins x) (fun _ _ => gby_lt _ _ _ _) (fun _ _ _ _ h i hi => gby_mono h i hi)
theorem gpa_12 {sr tg : Nat → Nat} {pr n : Nat} (hn : n < 4096) : gpa sr tg pr 12 n &&& gby sr tg pr (gpa sr tg pr 12 n) = gpa sr tg pr 12 n := itN_dec (F := fun x => x &&& gby sr tg pr x) hn (fun _ hy => and12 hy) (fun y _ i hi => by
  rw [Nat.testBit_and, Bool.and_eq_true] at hi
  exact hi.1)
theorem ldf_and {a b : Nat} : ldf a b = 0 ↔ a &&& b = a := by
  rw [ldf_0]
  constructor
  · intro h
    apply Nat.eq_of_testBit_eq
    intro i
    rw [Nat.testBit_and]
    cases ha : a.testBit i
    · rfl
    · rw [h i ha]; rfl
  · intro h i hi
    rw [← h, Nat.testBit_and, Bool.and_eq_true] at hi
    exact hi.2
-- ===== the model's most quarrelsome, told by the class's =====
def wsO (p : Nat × Option Nat) : Option Nat := match p.2 with
  | none => none
  | some _ => some p.1
theorem oI_m1 {o : Option Nat} (h : ∀ m, o = some m → m < 2147483648) : oI o = -1 ↔ o = none := by
  cases o with
  | none => exact ⟨fun _ => rfl, fun _ => rfl⟩
  | some m =>
    refine ⟨fun q => ?_, fun q => (by cases q)⟩
    have h2 := congrArg Int32.toInt q
    rw [show oI (some m) = nI m from rfl, nI_toInt (h m rfl), m1_toInt] at h2
    omega
theorem wsO_none {p : Nat × Option Nat} : wsO p = none ↔ p.2 = none := by
  unfold wsO
  cases p.2 with
  | none => exact ⟨fun _ => rfl, fun _ => rfl⟩
  | some v => exact ⟨fun h => (by cases h), fun h => (by cases h)⟩
theorem wsO_some {p : Nat × Option Nat} {v : Nat} (h : p.2 = some v) : wsO p = some p.1 := by
  unfold wsO
  rw [h]
theorem wsO_lt {p : Nat × Option Nat} {b : Nat} (hp : p.1 < b) : ∀ m, wsO p = some m → m < b := by
  intro m h
  unfold wsO at h
  cases hz : p.2 with
  | none => rw [hz] at h; cases h
  | some v => rw [hz] at h; cases h; exact hp
theorem mqB_wit {w q : Nat → Nat} {set : Nat} : ∀ {k v : Nat}, (mqB w q set k).2 = some v → ∃ i, i < k ∧ set.testBit i = true
| 0, v, h => by cases h
| k + 1, v, h => by
  unfold mqB at h
  split at h
  · rename_i hh
    exact ⟨k, Nat.lt_succ_self k, hh.1⟩
  · obtain ⟨i, h1, h2⟩ := mqB_wit h
    exact ⟨i, by omega, h2⟩
theorem mqB_some {w q : Nat → Nat} {set : Nat} : ∀ {k : Nat}, (∃ i, i < k ∧ set.testBit i = true) → ∃ v, (mqB w q set k).2 = some v ∧ set.testBit (mqB w q set k).1 = true
  | 0, ⟨i, hi, _⟩ => absurd hi (Nat.not_lt_zero i)
  | k + 1, ⟨i, hi, hs⟩ => by
    unfold mqB
    split
    · rename_i h
      exact ⟨_, rfl, h.1⟩
    · rename_i h
      by_cases hk : ∃ i, i < k ∧ set.testBit i = true
      · exact mqB_some hk
      · exfalso
        have e : i = k := by
          apply Classical.byContradiction
          intro hne
          exact hk ⟨i, by omega, hs⟩
        subst e
        have hn : (mqB w q set i).2 = none := by
          cases hz : (mqB w q set i).2 with
          | none => rfl
          | some v =>
            exfalso
            exact hk (mqB_wit hz)
        exact h ⟨hs, Or.inl (by rw [hn]; rfl)⟩
