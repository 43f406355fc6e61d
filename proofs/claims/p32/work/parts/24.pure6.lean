/-! pure 6: what the reference knows -/
def anyU (p : Nat → Bool) : Nat → Bool
  | 0 => false
  | n + 1 => anyU p n || p n
theorem anyU_iff {p : Nat → Bool} : ∀ {n : Nat}, anyU p n = true ↔ ∃ k, k < n ∧ p k = true
  | 0 => ⟨fun h => (by cases h), fun ⟨k, hk, _⟩ => absurd hk (Nat.not_lt_zero k)⟩
  | n + 1 => by
    show (anyU p n || p n) = true ↔ _
    rw [Bool.or_eq_true, anyU_iff]
    constructor
    · rintro (⟨k, h1, h2⟩ | h)
      · exact ⟨k, by omega, h2⟩
      · exact ⟨n, Nat.lt_succ_self n, h⟩
    · rintro ⟨k, h1, h2⟩
      rcases Nat.lt_or_eq_of_le (Nat.le_of_lt_succ h1) with q | q
      · exact Or.inl ⟨k, q, h2⟩
      · exact Or.inr (q ▸ h2)
theorem bool_ext {a b : Bool} (h : a = true ↔ b = true) : a = b := by cases a <;> cases b <;> simp_all
/-- whether a set of A lies properly above s -/
def blwP (A : Nat → Bool) (s t : Nat) : Bool := A t && ((ldf s t == 0) && (s != t))
def blw (A : Nat → Bool) (n s : Nat) : Bool := anyU (blwP A s) n
theorem blw_iff {A : Nat → Bool} {n s : Nat} : blw A n s = true ↔ ∃ t, t < n ∧ A t = true ∧ ldf s t = 0 ∧ s ≠ t := by
  unfold blw
  rw [anyU_iff]
  unfold blwP
  constructor
  · rintro ⟨t, h1, h2⟩
    rw [Bool.and_eq_true, Bool.and_eq_true, beq_iff_eq, bne_iff_ne] at h2
    exact ⟨t, h1, h2⟩
  · rintro ⟨t, h1, h2⟩
    refine ⟨t, h1, ?_⟩
    rw [Bool.and_eq_true, Bool.and_eq_true, beq_iff_eq, bne_iff_ne]
    exact h2
theorem blw_ext {A B : Nat → Bool} {n : Nat} (h : ∀ t, t < n → A t = B t) (s : Nat) : blw A n s = blw B n s := bool_ext (by
  rw [blw_iff, blw_iff]
  constructor
  · rintro ⟨t, h1, h2, h3⟩
    exact ⟨t, h1, h t h1 ▸ h2, h3⟩
  · rintro ⟨t, h1, h2, h3⟩
    exact ⟨t, h1, (h t h1).symm ▸ h2, h3⟩)
def blwS (A : Nat → Bool) (c s i : Nat) : Bool := !s.testBit i && (A (s ||| 2 ^ i) || blw A (2 ^ c) (s ||| 2 ^ i))
theorem or_bit_lt {s i c : Nat} (hs : s < 2 ^ c) (hi : i < c) : s ||| 2 ^ i < 2 ^ c := Nat.or_lt_two_pow hs (Nat.pow_lt_pow_right (by decide) hi)
theorem or_bit_tb {s i j : Nat} : (s ||| 2 ^ i).testBit j = true ↔ s.testBit j = true ∨ i = j := by
  rw [Nat.testBit_or, tb_pow, Bool.or_eq_true, decide_eq_true_iff]
theorem blw_step {A : Nat → Bool} {c s : Nat} (hs : s < 2 ^ c) : anyU (blwS A c s) c = blw A (2 ^ c) s := bool_ext (by
  rw [anyU_iff, blw_iff]
  unfold blwS
  constructor
  · rintro ⟨i, hi, h⟩
    rw [Bool.and_eq_true, Bool.not_eq_true', Bool.or_eq_true, blw_iff] at h
    obtain ⟨h1, h2⟩ := h
    have hne : s ≠ s ||| 2 ^ i := fun q => by
      have h3 : (s ||| 2 ^ i).testBit i = true := or_bit_tb.mpr (Or.inr rfl)
      rw [← q, h1] at h3
      cases h3
    rcases h2 with h2 | ⟨t, h3, h4, h5, h6⟩
    · exact ⟨s ||| 2 ^ i, or_bit_lt hs hi, h2, ldf_0.mpr (fun j hj => or_bit_tb.mpr (Or.inl hj)), hne⟩
    · refine ⟨t, h3, h4, ldf_0.mpr (fun j hj => ldf_0.mp h5 j (or_bit_tb.mpr (Or.inl hj))), fun q => ?_⟩
      have h7 : t.testBit i = true := ldf_0.mp h5 i (or_bit_tb.mpr (Or.inr rfl))
      rw [← q, h1] at h7
      cases h7
  · rintro ⟨t, h1, h2, h3, h4⟩
    have hw : ∃ i, i < c ∧ t.testBit i = true ∧ s.testBit i = false := by
      apply Classical.byContradiction
      intro hn
      apply h4
      apply nat_tb_ext
      intro i
      refine ⟨ldf_0.mp h3 i, fun hti => ?_⟩
      cases hsi : s.testBit i
      · exfalso
        refine hn ⟨i, ?_, hti, hsi⟩
        apply Nat.lt_of_not_le
        intro q
        rw [tb_lt h1 q] at hti
        cases hti
      · rfl
    obtain ⟨i, hi, hti, hsi⟩ := hw
    refine ⟨i, hi, ?_⟩
    rw [hsi, Bool.not_false, Bool.true_and, Bool.or_eq_true, blw_iff]
    by_cases e : s ||| 2 ^ i = t
    · exact Or.inl (e ▸ h2)
    · exact Or.inr ⟨t, h1, h2, ldf_0.mpr (fun j hj => (or_bit_tb.mp hj).elim (fun q => ldf_0.mp h3 j q) (fun q => q ▸ hti)), e⟩)
/-- the cells from j on hold what lies below -/
def beR (A : Nat → Bool) (c : Nat) (be : Nat → Bool) (j : Nat) : Nat → Bool := fun s => if j ≤ s ∧ s < 2 ^ c then blw A (2 ^ c) s else be s
theorem beR_top (A : Nat → Bool) (c : Nat) (be : Nat → Bool) : beR A c be (2 ^ c) = be := by
  funext s
  exact if_neg (fun q => by omega)
theorem beR_step {A : Nat → Bool} {c : Nat} {be : Nat → Bool} {j : Nat} (hj : j < 2 ^ c) : updB (beR A c be (j + 1)) j (anyU (blwS A c j) c) = beR A c be j := by
  funext s
  rw [blw_step hj]
  unfold updB beR
  by_cases h : s = j
  · rw [if_pos h, if_pos ⟨by omega, by omega⟩, h]
  · rw [if_neg h]
    by_cases h2 : j + 1 ≤ s ∧ s < 2 ^ c
    · rw [if_pos h2, if_pos ⟨by omega, h2.2⟩]
    · rw [if_neg h2, if_neg (fun q => h2 ⟨by omega, q.2⟩)]
theorem or_gt {s i : Nat} (h : s.testBit i = false) : s < s ||| 2 ^ i := by
  have h1 : s ≤ s ||| 2 ^ i := Nat.left_le_or
  rcases Nat.lt_or_eq_of_le h1 with q | q
  · exact q
  · have h3 : (s ||| 2 ^ i).testBit i = true := or_bit_tb.mpr (Or.inr rfl)
    rw [← q, h] at h3
    cases h3
theorem beR_at {A : Nat → Bool} {c : Nat} {be : Nat → Bool} {j i : Nat} {v : Bool} (hj : j < 2 ^ c) (hi : i < c) (h : j.testBit i = false) : updB (beR A c be (j + 1)) j v (j ||| 2 ^ i) = blw A (2 ^ c) (j ||| 2 ^ i) := by
  have h1 := or_gt h
  have h2 := or_bit_lt hj hi
  unfold updB beR
  rw [if_neg (by omega), if_pos ⟨by omega, h2⟩]
theorem updB_same (f : Nat → Bool) (k : Nat) (x : Bool) : updB f k x k = x := if_pos rfl
theorem updB_twice (f : Nat → Bool) (k : Nat) (x y : Bool) : updB (updB f k x) k y = updB f k y := by
  funext j
  unfold updB
  by_cases h : j = k
  · rw [if_pos h, if_pos h]
  · rw [if_neg h, if_neg h, if_neg h]
theorem jI_pos {j : Nat} (h : 0 < j) : nI (j - 1) = jI j := by
  cases j with
  | zero => exact absurd h (Nat.lt_irrefl 0)
  | succ j => rfl
-- ===== counts and found =====
def csF (L : Nat → List Nat) (c0 : Nat → Nat) : Nat → Nat := fun k => if k < 7 then (L k).length else c0 k
def fdF (L : Nat → List Nat) (f0 : Nat → Nat) : Nat → Nat := fun j => if j / 4096 < 7 ∧ j % 4096 < (L (j / 4096)).length then gl (L (j / 4096)) (j % 4096) else f0 j
def updL (L : Nat → List Nat) (k x : Nat) : Nat → List Nat := fun j => if j = k then L j ++ [x] else L j
def setL (L : Nat → List Nat) (k : Nat) (M : List Nat) : Nat → List Nat := fun j => if j = k then M else L j
theorem updL_set (L : Nat → List Nat) (k x : Nat) (M : List Nat) : updL (setL L k M) k x = setL L k (M ++ [x]) := by
  funext j
  unfold updL setL
  by_cases h : j = k
  · rw [if_pos h, if_pos h, if_pos h]
  · rw [if_neg h, if_neg h, if_neg h]
theorem setL_nil {L : Nat → List Nat} {k : Nat} {M : List Nat} (h : L k = M) : setL L k M = L := by
  funext j
  unfold setL
  by_cases e : j = k
  · rw [if_pos e, e, h]
  · rw [if_neg e]
theorem csF_put {L : Nat → List Nat} {c0 : Nat → Nat} {k x : Nat} (hk : k < 7) : updN (csF L c0) k (csF L c0 k + 1) = csF (updL L k x) c0 := by
  funext j
  unfold updN csF updL
  by_cases h : j = k
  · subst h
    rw [if_pos rfl, if_pos hk, if_pos hk, if_pos rfl, List.length_append]
    rfl
  · rw [if_neg h]
    by_cases h2 : j < 7
    · rw [if_pos h2, if_pos h2, if_neg h]
    · rw [if_neg h2, if_neg h2]
theorem csF_at {L : Nat → List Nat} {c0 : Nat → Nat} {k : Nat} (hk : k < 7) : csF L c0 k = (L k).length := if_pos hk
theorem fdF_put {L : Nat → List Nat} {f0 : Nat → Nat} {k x : Nat} (hk : k < 7) (hl : (L k).length < 4096) : updN (fdF L f0) (4096 * k + (L k).length) x = fdF (updL L k x) f0 := by
  funext j
  unfold updN fdF updL
  by_cases h : j = 4096 * k + (L k).length
  · have h1 : j / 4096 = k := by omega
    have h2 : j % 4096 = (L k).length := by omega
    rw [if_pos h, h1, h2, if_pos rfl, if_pos ⟨hk, by rw [List.length_append]; exact Nat.lt_succ_self _⟩, gl_last]
  · rw [if_neg h]
    by_cases h1 : j / 4096 = k
    · rw [h1, if_pos rfl]
      have h2 : j % 4096 ≠ (L k).length := fun q => h (by omega)
      rw [List.length_append, show [x].length = 1 from rfl]
      by_cases h3 : k < 7 ∧ j % 4096 < (L k).length
      · rw [if_pos h3, if_pos ⟨h3.1, by omega⟩, gl_app_l h3.2]
      · rw [if_neg h3, if_neg (fun q => h3 ⟨q.1, by omega⟩)]
    · rw [if_neg h1]
theorem fdF_nil {f0 : Nat → Nat} {L : Nat → List Nat} (h : ∀ k, k < 7 → L k = []) : fdF L f0 = f0 := by
  funext j
  unfold fdF
  refine if_neg (fun q => ?_)
  rw [h _ q.1] at q
  exact absurd q.2 (Nat.not_lt_zero _)
def knP (L : Nat → List Nat) (cs ff : Nat → Nat) : Prop := (∀ k, k < 7 → cs k = (L k).length) ∧ ∀ k i, k < 7 → i < (L k).length → ff (4096 * k + i) = gl (L k) i
theorem knP_of {L : Nat → List Nat} (c0 f0 : Nat → Nat) (h : ∀ k, k < 7 → (L k).length ≤ 4096) : knP L (csF L c0) (fdF L f0) := by
  refine ⟨fun k hk => csF_at hk, fun k i hk hi => ?_⟩
  have := h k hk
  have h1 : (4096 * k + i) / 4096 = k := by omega
  have h2 : (4096 * k + i) % 4096 = i := by omega
  unfold fdF
  rw [h1, h2, if_pos ⟨hk, hi⟩]
def LK (a b c d e f g : List Nat) : Nat → List Nat
  | 0 => a
  | 1 => b
  | 2 => c
  | 3 => d
  | 4 => e
  | 5 => f
  | 6 => g
  | _ => []
theorem LK_0 (a b c d e f g : List Nat) (x : Nat) : updL (LK a b c d e f g) 0 x = LK (a ++ [x]) b c d e f g := by
  funext j
  match j with
  | 0 | 1 | 2 | 3 | 4 | 5 | 6 => rfl
  | n + 7 => exact if_neg (by omega)
theorem LK_1 (a b c d e f g : List Nat) (x : Nat) : updL (LK a b c d e f g) 1 x = LK a (b ++ [x]) c d e f g := by
  funext j
  match j with
  | 0 | 1 | 2 | 3 | 4 | 5 | 6 => rfl
  | n + 7 => exact if_neg (by omega)
theorem LK_2 (a b c d e f g : List Nat) (x : Nat) : updL (LK a b c d e f g) 2 x = LK a b (c ++ [x]) d e f g := by
  funext j
  match j with
  | 0 | 1 | 2 | 3 | 4 | 5 | 6 => rfl
  | n + 7 => exact if_neg (by omega)
theorem LK_3 (a b c d e f g : List Nat) (x : Nat) : updL (LK a b c d e f g) 3 x = LK a b c (d ++ [x]) e f g := by
  funext j
  match j with
  | 0 | 1 | 2 | 3 | 4 | 5 | 6 => rfl
  | n + 7 => exact if_neg (by omega)
theorem LK_6 (a b c d e f g : List Nat) (x : Nat) : updL (LK a b c d e f g) 6 x = LK a b c d e f (g ++ [x]) := by
  funext j
  match j with
  | 0 | 1 | 2 | 3 | 4 | 5 | 6 => rfl
  | n + 7 => exact if_neg (by omega)
theorem LK_s4 (a b c d e f g M : List Nat) : setL (LK a b c d e f g) 4 M = LK a b c d M f g := by
  funext j
  match j with
  | 0 | 1 | 2 | 3 | 4 | 5 | 6 => rfl
  | n + 7 => exact if_neg (by omega)
theorem LK_s5 (a b c d e f g M : List Nat) : setL (LK a b c d e f g) 5 M = LK a b c d e M g := by
  funext j
  match j with
  | 0 | 1 | 2 | 3 | 4 | 5 | 6 => rfl
  | n + 7 => exact if_neg (by omega)
-- ===== the reference's lists =====
def frQ (tg : Nat → Nat) (s : Nat) : Bool := hit tg s &&& s == 0
def adQ (sr tg : Nat → Nat) (pr s : Nat) : Bool := (hit tg s &&& s == 0) && (ldf s (gby sr tg pr s) == 0)
def arQ (sr tg : Nat → Nat) (pr s : Nat) : Bool := (ldf s pr == 0) && adQ sr tg pr s
def mC (sr tg : Nat → Nat) (pr s : Nat) : Bool := arQ sr tg pr s && (gby sr tg pr s == s)
def mS (tg : Nat → Nat) (pr s : Nat) : Bool := (ldf s pr == 0) && (frQ tg s && ((s ||| hit tg s) == pr))
def mP (sr tg : Nat → Nat) (pr c s : Nat) : Bool := arQ sr tg pr s && !blw (arQ sr tg pr) (2 ^ c) s
def rgQ (sr tg : Nat → Nat) (pr : Nat) (t : Bool) (s : Nat) : Bool := (ldf s pr == 0) && (if t then adQ sr tg pr s else frQ tg s)
/-- the ranges of the sets below k -/
def rgA (sr tg : Nat → Nat) (pr : Nat) (t : Bool) (k j : Nat) : Bool := anyU (fun s => rgQ sr tg pr t s && ((s ||| hit tg s) == j)) k
def mR (sr tg : Nat → Nat) (pr c : Nat) (t : Bool) (s : Nat) : Bool := rgQ sr tg pr t s && !blw (rgA sr tg pr t (2 ^ c)) (2 ^ c) (s ||| hit tg s)
def idU (P : Nat → Bool) : Nat → Nat
  | 0 => 0
  | k + 1 => if P k && decide (pc (idU P k) < pc k) then k else idU P k
def mCo (sr tg : Nat → Nat) (pr c k : Nat) : Nat := coU (gl (sel (mP sr tg pr c) k)) pr (sel (mP sr tg pr c) k).length
def mI (sr tg : Nat → Nat) (pr c s : Nat) : Bool := arQ sr tg pr s && (ldf s (mCo sr tg pr c (2 ^ c)) == 0)
def yL (sr tg : Nat → Nat) (pr c : Nat) : Nat → List Nat := LK (sel (mC sr tg pr) (2 ^ c)) [grw sr tg pr 12] (sel (mP sr tg pr c) (2 ^ c)) (sel (mS tg pr) (2 ^ c)) (sel (mR sr tg pr c false) (2 ^ c)) (sel (mR sr tg pr c true) (2 ^ c)) [idU (mI sr tg pr c) (2 ^ c)]
theorem yL_len {sr tg : Nat → Nat} {pr c : Nat} (hc : c ≤ 12) (k : Nat) : (yL sr tg pr c k).length ≤ 4096 := by
  have h := cnt_p12 hc
  unfold yL LK
  split <;> first | exact Nat.le_trans (sel_len _ _) h | exact (by decide : 1 ≤ 4096) | exact Nat.zero_le _
def ovB (n : Nat) (f g : Nat → Bool) : Nat → Bool := fun j => if j < n then f j else g j
theorem ovB_0 (f g : Nat → Bool) : ovB 0 f g = g := by
  funext j
  exact if_neg (Nat.not_lt_zero j)
theorem ovB_s (f g : Nat → Bool) (k : Nat) (v : Bool) (hv : f k = v) : updB (ovB k f g) k v = ovB (k + 1) f g := by
  funext j
  unfold updB ovB
  by_cases h : j = k
  · rw [if_pos h, if_pos (by omega), h, hv]
  · rw [if_neg h]
    by_cases h2 : j < k
    · rw [if_pos h2, if_pos (by omega)]
    · rw [if_neg h2, if_neg (by omega)]
theorem ovB_in {n : Nat} {f g : Nat → Bool} {j : Nat} (h : j < n) : ovB n f g j = f j := if_pos h
theorem ovB_ov (n : Nat) (f f' g : Nat → Bool) : ovB n f (ovB n f' g) = ovB n f g := by
  funext j
  unfold ovB
  by_cases h : j < n
  · rw [if_pos h, if_pos h]
  · rw [if_neg h, if_neg h, if_neg h]
theorem rgA_0 (sr tg : Nat → Nat) (pr : Nat) (t : Bool) : rgA sr tg pr t 0 = fun _ => false := rfl
theorem rgA_no {sr tg : Nat → Nat} {pr : Nat} {t : Bool} {k : Nat} (h : rgQ sr tg pr t k = false) : rgA sr tg pr t (k + 1) = rgA sr tg pr t k := by
  funext j
  show (rgA sr tg pr t k j || (rgQ sr tg pr t k && _)) = _
  rw [h, Bool.false_and, Bool.or_false]
theorem rgA_yes {sr tg : Nat → Nat} {pr : Nat} {t : Bool} {k n : Nat} {g : Nat → Bool} (h : rgQ sr tg pr t k = true) (hn : k ||| hit tg k < n) : updB (ovB n (rgA sr tg pr t k) g) (k ||| hit tg k) true = ovB n (rgA sr tg pr t (k + 1)) g := by
  funext j
  have e : rgA sr tg pr t (k + 1) j = (rgA sr tg pr t k j || (k ||| hit tg k == j)) := by
    show (rgA sr tg pr t k j || (rgQ sr tg pr t k && _)) = _
    rw [h, Bool.true_and]
  unfold updB ovB
  by_cases hj : j = k ||| hit tg k
  · rw [if_pos hj, if_pos (by omega), e, beq_iff_eq.mpr hj.symm, Bool.or_true]
  · rw [if_neg hj]
    by_cases h2 : j < n
    · rw [if_pos h2, if_pos h2, e, beq_false_of_ne (fun q => hj q.symm), Bool.or_false]
    · rw [if_neg h2, if_neg h2]
theorem coU_push {L : List Nat} {al x : Nat} : coU (gl (L ++ [x])) al (L ++ [x]).length = coU (gl L) al L.length &&& x := by
  rw [List.length_append]
  show coU (gl (L ++ [x])) al L.length &&& gl (L ++ [x]) L.length = _
  rw [gl_last, coU_ext (fun k hk => gl_app_l hk)]
theorem mCo_t {sr tg : Nat → Nat} {pr c k : Nat} (h : mP sr tg pr c k = true) : mCo sr tg pr c (k + 1) = mCo sr tg pr c k &&& k := by
  unfold mCo
  rw [show sel (mP sr tg pr c) (k + 1) = sel (mP sr tg pr c) k ++ [k] from adl_t h, coU_push]
theorem mCo_f {sr tg : Nat → Nat} {pr c k : Nat} (h : mP sr tg pr c k = false) : mCo sr tg pr c (k + 1) = mCo sr tg pr c k := by
  unfold mCo
  rw [show sel (mP sr tg pr c) (k + 1) = sel (mP sr tg pr c) k from adl_f h]
theorem mCo_le (sr tg : Nat → Nat) (pr c k : Nat) : mCo sr tg pr c k ≤ pr := coU_le _ _ _
theorem idU_t {P : Nat → Bool} {k : Nat} (h1 : P k = true) (h2 : pc (idU P k) < pc k) : idU P (k + 1) = k := if_pos (by rw [h1, decide_eq_true h2]; rfl)
theorem idU_f1 {P : Nat → Bool} {k : Nat} (h1 : P k = false) : idU P (k + 1) = idU P k := if_neg (by rw [h1]; exact Bool.false_ne_true)
theorem idU_f2 {P : Nat → Bool} {k : Nat} (h2 : pc k ≤ pc (idU P k)) : idU P (k + 1) = idU P k := if_neg (by rw [decide_eq_false (by omega), Bool.and_false]; exact Bool.false_ne_true)
theorem idU_lt (P : Nat → Bool) : ∀ k, idU P k ≤ k
  | 0 => Nat.le_refl 0
  | k + 1 => by
    unfold idU
    split
    · exact Nat.le_succ k
    · exact Nat.le_succ_of_le (idU_lt P k)
theorem hit_ltc {tg : Nat → Nat} {n c : Nat} (h : ∀ k, tg k < 2 ^ c) : hit tg n < 2 ^ c := lt_tb (fun i hi => by
  cases hq : (hit tg n).testBit i
  · rfl
  · obtain ⟨j, -, -, h3⟩ := hit_tb.mp hq
    rw [tb_lt (h j) hi] at h3
    cases h3)
theorem tgO_ltc {wt mk : Nat → Nat} {pr tol cnt : Nat} (hc : cnt ≤ 12) (hpc : pr < 2 ^ cnt) (k : Nat) : tgO (wkb wt mk pr tol) k < 2 ^ cnt := by
  rw [← tgO_cnt hc hpc]
  exact mks_lt _ _
theorem sel_cong {P Q : Nat → Bool} : ∀ {n : Nat}, (∀ k, k < n → P k = Q k) → sel P n = sel Q n
  | 0, _ => rfl
  | n + 1, h => by
    show adl (P n) (sel P n) n = adl (Q n) (sel Q n) n
    rw [sel_cong (fun k hk => h k (by omega)), h n (Nat.lt_succ_self n)]
theorem csF_nil (c0 : Nat → Nat) : csF (LK [] [] [] [] [] [] []) c0 = ovA 7 (fun _ => 0) c0 := by
  funext k
  unfold csF ovA
  by_cases h : k < 7
  · rw [if_pos h, if_pos h]
    have e : LK [] [] [] [] [] [] [] k = [] := by unfold LK; split <;> rfl
    rw [e]; rfl
  · rw [if_neg h, if_neg h]
theorem LK_nil (k : Nat) : LK [] [] [] [] [] [] [] k = [] := by unfold LK; split <;> rfl
theorem csF_LK {a b c d e f g a' b' c' d' e' f' g' : List Nat} {c0 : Nat → Nat} (h1 : a = a') (h2 : b = b') (h3 : c = c') (h4 : d = d') (h5 : e = e') (h6 : f = f') (h7 : g = g') : csF (LK a b c d e f g) c0 = csF (LK a' b' c' d' e' f' g') c0 := by rw [h1, h2, h3, h4, h5, h6, h7]
theorem fdF_LK {a b c d e f g a' b' c' d' e' f' g' : List Nat} {c0 : Nat → Nat} (h1 : a = a') (h2 : b = b') (h3 : c = c') (h4 : d = d') (h5 : e = e') (h6 : f = f') (h7 : g = g') : fdF (LK a b c d e f g) c0 = fdF (LK a' b' c' d' e' f' g') c0 := by rw [h1, h2, h3, h4, h5, h6, h7]
theorem beR_0at {A : Nat → Bool} {c : Nat} {be : Nat → Bool} {s : Nat} (h : s < 2 ^ c) : beR A c be 0 s = blw A (2 ^ c) s := if_pos ⟨Nat.zero_le _, h⟩
theorem ovB_blw {A g : Nat → Bool} {c s : Nat} : blw (ovB (2 ^ c) A g) (2 ^ c) s = blw A (2 ^ c) s := blw_ext (fun t ht => ovB_in ht) s
