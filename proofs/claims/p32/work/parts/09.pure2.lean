/-! pure 2: lists, and the search for all positions -/
theorem adl_t {b : Bool} {L : List Nat} {x : Nat} (h : b = true) : adl b L x = L ++ [x] := if_pos h
theorem adl_f {b : Bool} {L : List Nat} {x : Nat} (h : b = false) : adl b L x = L := if_neg (by rw [h]; decide)
theorem unU_ext {f f' : Nat → Nat} : ∀ {n : Nat}, (∀ k, k < n → f k = f' k) → unU f n = unU f' n
  | 0, _ => rfl
  | n + 1, h => by
    show unU f n ||| f n = unU f' n ||| f' n
    rw [unU_ext (fun k hk => h k (by omega)), h n (Nat.lt_succ_self n)]
theorem coU_ext {f f' : Nat → Nat} {al : Nat} : ∀ {n : Nat}, (∀ k, k < n → f k = f' k) → coU f al n = coU f' al n
  | 0, _ => rfl
  | n + 1, h => by
    show coU f al n &&& f n = coU f' al n &&& f' n
    rw [coU_ext (fun k hk => h k (by omega)), h n (Nat.lt_succ_self n)]
theorem coU_le (f : Nat → Nat) (al : Nat) : ∀ n, coU f al n ≤ al
  | 0 => Nat.le_refl _
  | n + 1 => Nat.le_trans Nat.and_le_left (coU_le f al n)
def allF (p : Nat → Bool) : Nat → Bool
  | 0 => true
  | n + 1 => allF p n && p n
theorem allF_true {p : Nat → Bool} : ∀ {n : Nat}, allF p n = true ↔ ∀ k, k < n → p k = true
  | 0 => ⟨fun _ k hk => absurd hk (Nat.not_lt_zero k), fun _ => rfl⟩
  | n + 1 => by
    show (allF p n && p n) = true ↔ _
    rw [Bool.and_eq_true, allF_true]
    constructor
    · rintro ⟨h1, h2⟩ k hk
      rcases Nat.lt_or_eq_of_le (Nat.le_of_lt_succ hk) with q | q
      · exact h1 k q
      · rw [q]; exact h2
    · intro h
      exact ⟨fun k hk => h k (by omega), h n (Nat.lt_succ_self n)⟩
theorem allF_false {p : Nat → Bool} {m : Nat} (h : allF p m = false) : ∀ {n : Nat}, m ≤ n → allF p n = false
  | 0, hn => by rw [show m = 0 by omega] at h; exact h
  | n + 1, hn => by
    rcases Nat.lt_or_ge n m with q | q
    · rw [show n + 1 = m by omega]; exact h
    · show (allF p n && p n) = false
      rw [allF_false h q]; rfl
theorem allF_ext {p q : Nat → Bool} : ∀ {n : Nat}, (∀ k, k < n → p k = q k) → allF p n = allF q n
  | 0, _ => rfl
  | n + 1, h => by
    show (allF p n && p n) = (allF q n && q n)
    rw [allF_ext (fun k hk => h k (by omega)), h n (Nat.lt_succ_self n)]
def prp (a b : Nat) : Bool := (a != b) && (ldf a b == 0)
def lgP (L : List Nat) (i t : Nat) : Bool := decide (t ≤ i) || (ldf (gl L i) (gl L t) != 0)
def lgst (L : List Nat) (i : Nat) : Bool := allF (lgP L i) L.length
theorem lgP_0 (L : List Nat) (i : Nat) : allF (lgP L i) (i + 1) = true := allF_true.mpr (fun k hk => by
  unfold lgP
  rw [decide_eq_true (show k ≤ i by omega)]; rfl)
theorem lgP_s {L : List Nat} {i t : Nat} (h : allF (lgP L i) t = true) (ht : i < t) (b : Bool) (hb : (ldf (gl L i) (gl L t) != 0) = b) : b = allF (lgP L i) (t + 1) := by
  show b = (allF (lgP L i) t && lgP L i t)
  unfold lgP at *
  rw [h, decide_eq_false (show ¬ t ≤ i by omega), hb]
  rfl
def covH (hf : Nat → Nat) (x : Nat) : Nat := x ||| hf x
def wdP (hf : Nat → Nat) (L : List Nat) (i t : Nat) : Bool := !prp (covH hf (gl L i)) (covH hf (gl L t))
def wdst (hf : Nat → Nat) (L : List Nat) (i : Nat) : Bool := allF (wdP hf L i) L.length
theorem wdP_s {hf : Nat → Nat} {L : List Nat} {i t : Nat} (h : allF (wdP hf L i) t = true) (b : Bool) (hb : (!prp (covH hf (gl L i)) (covH hf (gl L t))) = b) : b = allF (wdP hf L i) (t + 1) := by
  show b = (allF (wdP hf L i) t && wdP hf L i t)
  rw [h]
  unfold wdP
  rw [hb]
  rfl
def kp (q : Nat → Bool) (L : List Nat) : Nat → List Nat
  | 0 => []
  | k + 1 => adl (q k) (kp q L k) (gl L k)
def flt (q : Nat → Bool) (L : List Nat) : List Nat := kp q L L.length
theorem kp_len (q : Nat → Bool) (L : List Nat) : ∀ k, (kp q L k).length ≤ k
  | 0 => Nat.le_refl 0
  | k + 1 => Nat.le_trans (adl_len _ _ _) (Nat.succ_le_succ (kp_len q L k))
theorem kp_t {q : Nat → Bool} {L : List Nat} {k : Nat} (h : q k = true) : kp q L (k + 1) = kp q L k ++ [gl L k] := adl_t h
theorem kp_f {q : Nat → Bool} {L : List Nat} {k : Nat} (h : q k = false) : kp q L (k + 1) = kp q L k := adl_f h
-- ===== the judging of one set =====
def jC (sr : Nat → Nat) (pr : Nat) (hf tf : Nat → Nat) (n : Nat) : Bool := (n &&& hf n == 0) && ((ldf (tf n) (hf n) == 0) && (safe sr (hf n) pr == n))
def jS (pr : Nat) (hf : Nat → Nat) (n : Nat) : Bool := (n &&& hf n == 0) && ((n ||| hf n) == pr)
def jL (pr sf : Nat) (hf tf : Nat → Nat) (n : Nat) : Bool := (n &&& hf n == 0) && ((((n ||| hf n) ||| tf n) ||| sf) == pr)
theorem j_n {n : Nat} {hf : Nat → Nat} (h : n &&& hf n ≠ 0) (x : Bool) : ((n &&& hf n == 0) && x) = false := by rw [beq_false_of_ne h]; rfl
theorem j_y {n : Nat} {hf : Nat → Nat} (h : n &&& hf n = 0) (x : Bool) : ((n &&& hf n == 0) && x) = x := by rw [h]; rfl
-- ===== the tables of what sets attack =====
/-- the cells below n that are told by sets in the debate hold what these attack -/
def htA (tg : Nat → Nat) (pr n : Nat) (f : Nat → Nat) : Nat → Nat := fun j => if j < n ∧ ldf j pr = 0 then hit tg j else f j
theorem hitU_0 (tg : Nat → Nat) : ∀ k, hitU tg 0 k = 0
  | 0 => rfl
  | k + 1 => by rw [hitU_f (Nat.zero_testBit k), hitU_0 tg k]
theorem hit_0 (tg : Nat → Nat) : hit tg 0 = 0 := hitU_0 tg 12
theorem hitU_tb {tg : Nat → Nat} {n : Nat} (i : Nat) : ∀ {k : Nat}, (hitU tg n k).testBit i = true ↔ ∃ j, j < k ∧ n.testBit j = true ∧ (tg j).testBit i = true
  | 0 => by
    show (0 : Nat).testBit i = true ↔ _
    rw [Nat.zero_testBit]
    exact ⟨fun h => (by cases h), fun ⟨j, hj, _⟩ => absurd hj (Nat.not_lt_zero j)⟩
  | k + 1 => by
    by_cases h : n.testBit k = true
    · rw [hitU_t h, Nat.testBit_or, Bool.or_eq_true, hitU_tb i]
      constructor
      · rintro (⟨j, h1, h2, h3⟩ | h3)
        · exact ⟨j, by omega, h2, h3⟩
        · exact ⟨k, Nat.lt_succ_self k, h, h3⟩
      · rintro ⟨j, h1, h2, h3⟩
        rcases Nat.lt_or_eq_of_le (Nat.le_of_lt_succ h1) with q | q
        · exact Or.inl ⟨j, q, h2, h3⟩
        · exact Or.inr (q ▸ h3)
    · have h' : n.testBit k = false := by cases hz : n.testBit k <;> simp_all
      rw [hitU_f h', hitU_tb i]
      constructor
      · rintro ⟨j, h1, h2, h3⟩
        exact ⟨j, by omega, h2, h3⟩
      · rintro ⟨j, h1, h2, h3⟩
        rcases Nat.lt_or_eq_of_le (Nat.le_of_lt_succ h1) with q | q
        · exact ⟨j, q, h2, h3⟩
        · exact absurd (q ▸ h2) h
theorem hit_tb {tg : Nat → Nat} {n i : Nat} : (hit tg n).testBit i = true ↔ ∃ j, j < 12 ∧ n.testBit j = true ∧ (tg j).testBit i = true := hitU_tb i
theorem or_pow {N k : Nat} (h : k < 2 ^ N) : k ||| 2 ^ N = 2 ^ N + k := by
  rw [Nat.or_comm]
  have q := Nat.two_pow_add_eq_or_of_lt h 1
  rw [Nat.mul_one] at q
  exact q.symm
theorem nat_tb_ext {a b : Nat} (h : ∀ i, a.testBit i = true ↔ b.testBit i = true) : a = b := by
  apply Nat.eq_of_testBit_eq
  intro i
  have := h i
  cases ha : a.testBit i <;> cases hb : b.testBit i <;> simp_all
theorem add_tb {N k : Nat} (h : k < 2 ^ N) (i : Nat) : (2 ^ N + k).testBit i = (k.testBit i || decide (N = i)) := by rw [← or_pow h, Nat.testBit_or, tb_pow]
theorem hit_push {tg : Nat → Nat} {N k : Nat} (hN : N < 12) (h : k < 2 ^ N) : hit tg (2 ^ N + k) = hit tg k ||| tg N := by
  apply nat_tb_ext
  intro i
  rw [hit_tb, Nat.testBit_or, Bool.or_eq_true, hit_tb]
  constructor
  · rintro ⟨j, h1, h2, h3⟩
    rw [add_tb h, Bool.or_eq_true, decide_eq_true_iff] at h2
    rcases h2 with h2 | h2
    · exact Or.inl ⟨j, h1, h2, h3⟩
    · exact Or.inr (h2 ▸ h3)
  · rintro (⟨j, h1, h2, h3⟩ | h3)
    · exact ⟨j, h1, by rw [add_tb h, h2]; rfl, h3⟩
    · exact ⟨N, hN, by rw [add_tb h, decide_eq_true rfl, Bool.or_true], h3⟩
theorem ldf_0 {a b : Nat} : ldf a b = 0 ↔ ∀ i, a.testBit i = true → b.testBit i = true := by
  constructor
  · intro h i hi
    have := ldf_tb a b i
    rw [h, Nat.zero_testBit, hi] at this
    cases hb : b.testBit i
    · rw [hb] at this; cases this
    · rfl
  · intro h
    apply Nat.eq_of_testBit_eq
    intro i
    rw [ldf_tb, Nat.zero_testBit]
    cases ha : a.testBit i
    · rfl
    · rw [h i ha]; rfl
theorem ldf_add {N k pr : Nat} (h : k < 2 ^ N) (hp : pr.testBit N = true) : ldf (2 ^ N + k) pr = 0 ↔ ldf k pr = 0 := by
  rw [ldf_0, ldf_0]
  constructor
  · intro q i hi
    exact q i (by rw [add_tb h, hi]; rfl)
  · intro q i hi
    rw [add_tb h, Bool.or_eq_true, decide_eq_true_iff] at hi
    rcases hi with hi | hi
    · exact q i hi
    · exact hi ▸ hp
theorem htA_in {tg : Nat → Nat} {pr n j : Nat} {f : Nat → Nat} (h1 : j < n) (h2 : ldf j pr = 0) : htA tg pr n f j = hit tg j := if_pos ⟨h1, h2⟩
theorem htA_step {tg : Nat → Nat} {pr n : Nat} {f : Nat → Nat} (h : ldf n pr = 0) : updN (htA tg pr n f) n (hit tg n) = htA tg pr (n + 1) f := by
  funext j
  unfold updN htA
  by_cases e : j = n
  · rw [if_pos e, if_pos ⟨by omega, e ▸ h⟩, e]
  · rw [if_neg e]
    by_cases c : j < n ∧ ldf j pr = 0
    · rw [if_pos c, if_pos ⟨by omega, c.2⟩]
    · rw [if_neg c, if_neg (fun q => c ⟨by omega, q.2⟩)]
theorem htA_skip {tg : Nat → Nat} {pr n : Nat} {f : Nat → Nat} {m : Nat} (hm : n ≤ m) (h : ∀ j, n ≤ j → j < m → ldf j pr ≠ 0) : htA tg pr m f = htA tg pr n f := by
  funext j
  unfold htA
  by_cases c : j < n ∧ ldf j pr = 0
  · rw [if_pos c, if_pos ⟨by omega, c.2⟩]
  · rw [if_neg c, if_neg (fun q => by
      rcases Nat.lt_or_ge j n with z | z
      · exact c ⟨z, q.2⟩
      · exact h j z q.1 q.2)]
theorem htA_1 {tg : Nat → Nat} {pr : Nat} {f : Nat → Nat} (h0 : f 0 = 0) : htA tg pr 1 f = f := by
  funext j
  unfold htA
  by_cases c : j < 1 ∧ ldf j pr = 0
  · rw [if_pos c, show j = 0 by omega, hit_0, h0]
  · rw [if_neg c]
theorem htA_lt {tg : Nat → Nat} {pr n : Nat} {f : Nat → Nat} (ht : ∀ k, tg k < 4096) (hf : ∀ k, f k < 4096) (j : Nat) : htA tg pr n f j < 4096 := by
  unfold htA
  split
  · exact hit_lt ht
  · exact hf j
-- ===== the lists of the search =====
def freeP (tg : Nat → Nat) (pr n : Nat) : Bool := (ldf n pr == 0) && (n &&& hit tg n == 0)
def pC (sr tg : Nat → Nat) (pr n : Nat) : Bool := (ldf n pr == 0) && ((n &&& hit tg n == 0) && ((ldf (hit sr n) (hit tg n) == 0) && (safe sr (hit tg n) pr == n)))
def pS (tg : Nat → Nat) (pr n : Nat) : Bool := (ldf n pr == 0) && ((n &&& hit tg n == 0) && ((n ||| hit tg n) == pr))
def pL (sr tg : Nat → Nat) (pr sf n : Nat) : Bool := (ldf n pr == 0) && ((n &&& hit tg n == 0) && ((((n ||| hit tg n) ||| hit sr n) ||| sf) == pr))
theorem out_f {n pr : Nat} (h : ldf n pr ≠ 0) (x : Bool) : ((ldf n pr == 0) && x) = false := by rw [beq_false_of_ne h]; rfl
theorem in_t {n pr : Nat} (h : ldf n pr = 0) (x : Bool) : ((ldf n pr == 0) && x) = x := by rw [h]; rfl
theorem jC_in {sr tg : Nat → Nat} {pr n : Nat} {hf tf : Nat → Nat} (h : ldf n pr = 0) (h1 : hf n = hit tg n) (h2 : tf n = hit sr n) : jC sr pr hf tf n = pC sr tg pr n := by
  unfold jC pC
  rw [in_t h, h1, h2]
theorem jS_in {tg : Nat → Nat} {pr n : Nat} {hf : Nat → Nat} (h : ldf n pr = 0) (h1 : hf n = hit tg n) : jS pr hf n = pS tg pr n := by
  unfold jS pS
  rw [in_t h, h1]
theorem jL_in {sr tg : Nat → Nat} {pr sf n : Nat} {hf tf : Nat → Nat} (h : ldf n pr = 0) (h1 : hf n = hit tg n) (h2 : tf n = hit sr n) : jL pr sf hf tf n = pL sr tg pr sf n := by
  unfold jL pL
  rw [in_t h, h1, h2]
theorem ldf_gap {pr N j : Nat} (hp : pr.testBit N = false) (h1 : 2 ^ N ≤ j) (h2 : j < 2 ^ (N + 1)) : ldf j pr ≠ 0 := by
  intro h
  have hj : j.testBit N = true := by
    obtain ⟨k, hk⟩ : ∃ k, j = 2 ^ N + k := ⟨j - 2 ^ N, by omega⟩
    have hk2 : k < 2 ^ N := by rw [Nat.pow_succ] at h2; omega
    rw [hk, add_tb hk2, decide_eq_true rfl, Bool.or_true]
  rw [ldf_0.mp h N hj] at hp
  cases hp
theorem sel_gap {P : Nat → Bool} {pr N : Nat} (hP : ∀ n, ldf n pr ≠ 0 → P n = false) (hp : pr.testBit N = false) : sel P (2 ^ (N + 1)) = sel P (2 ^ N) := sel_skip (Nat.pow_le_pow_right (by decide) (Nat.le_succ N)) (fun j h1 h2 => hP j (ldf_gap hp h1 h2))
theorem pC_out {sr tg : Nat → Nat} {pr : Nat} (n : Nat) (h : ldf n pr ≠ 0) : pC sr tg pr n = false := out_f h _
theorem pS_out {tg : Nat → Nat} {pr : Nat} (n : Nat) (h : ldf n pr ≠ 0) : pS tg pr n = false := out_f h _
theorem pL_out {sr tg : Nat → Nat} {pr sf : Nat} (n : Nat) (h : ldf n pr ≠ 0) : pL sr tg pr sf n = false := out_f h _
def lCom (sr tg : Nat → Nat) (pr : Nat) : List Nat := sel (pC sr tg pr) 4096
def lSta (tg : Nat → Nat) (pr : Nat) : List Nat := sel (pS tg pr) 4096
def lLar (sr tg : Nat → Nat) (pr sf : Nat) : List Nat := sel (pL sr tg pr sf) 4096
def lPre (sr tg : Nat → Nat) (pr : Nat) : List Nat := flt (lgst (lCom sr tg pr)) (lCom sr tg pr)
def lWid (hf : Nat → Nat) (L : List Nat) : List Nat := flt (wdst hf L) L
/-- the lists of all kinds, and of the largest free sets -/
def posL (sr tg : Nat → Nat) (pr sf : Nat) (hf : Nat → Nat) (k : Nat) : List Nat := match k with
  | 0 => lCom sr tg pr
  | 1 => [grw sr tg pr 12]
  | 2 => lPre sr tg pr
  | 3 => lSta tg pr
  | 4 => lWid hf (lLar sr tg pr sf)
  | 5 => lWid hf (lPre sr tg pr)
  | 6 => [gpa sr tg pr 12 (coU (gl (lPre sr tg pr)) pr (lPre sr tg pr).length)]
  | _ => lLar sr tg pr sf
theorem gl_mem {L : List Nat} {P : Nat → Prop} (h0 : P 0) (h : ∀ x ∈ L, P x) (k : Nat) : P (gl L k) := by
  unfold gl
  rw [List.getD_eq_getElem?_getD]
  cases hz : L[k]? with
  | none => exact h0
  | some x => exact h x (List.mem_of_getElem? hz)
theorem adl_mem {b : Bool} {L : List Nat} {x y : Nat} : y ∈ adl b L x ↔ y ∈ L ∨ (b = true ∧ y = x) := by
  cases b
  · rw [adl_f rfl]
    exact ⟨Or.inl, fun h => h.elim id (fun h => by cases h.1)⟩
  · rw [adl_t rfl, List.mem_append, List.mem_singleton]
    exact ⟨fun h => h.elim Or.inl (fun h => Or.inr ⟨rfl, h⟩), fun h => h.elim Or.inl (fun h => Or.inr h.2)⟩
theorem sel_mem {P : Nat → Bool} {x : Nat} : ∀ {n : Nat}, x ∈ sel P n ↔ x < n ∧ P x = true
  | 0 => ⟨fun h => absurd h List.not_mem_nil, fun h => absurd h.1 (Nat.not_lt_zero x)⟩
  | n + 1 => by
    show x ∈ adl (P n) (sel P n) n ↔ _
    rw [adl_mem, sel_mem]
    constructor
    · rintro (⟨h1, h2⟩ | ⟨h1, rfl⟩)
      · exact ⟨by omega, h2⟩
      · exact ⟨Nat.lt_succ_self _, h1⟩
    · rintro ⟨h1, h2⟩
      rcases Nat.lt_or_eq_of_le (Nat.le_of_lt_succ h1) with q | q
      · exact Or.inl ⟨q, h2⟩
      · exact Or.inr ⟨q ▸ h2, q⟩
theorem kp_mem {q : Nat → Bool} {L : List Nat} {x : Nat} : ∀ {k : Nat}, x ∈ kp q L k ↔ ∃ i, i < k ∧ q i = true ∧ x = gl L i
  | 0 => ⟨fun h => absurd h List.not_mem_nil, fun ⟨i, h, _⟩ => absurd h (Nat.not_lt_zero i)⟩
  | k + 1 => by
    show x ∈ adl (q k) (kp q L k) (gl L k) ↔ _
    rw [adl_mem, kp_mem]
    constructor
    · rintro (⟨i, h1, h2, h3⟩ | ⟨h1, h2⟩)
      · exact ⟨i, by omega, h2, h3⟩
      · exact ⟨k, Nat.lt_succ_self k, h1, h2⟩
    · rintro ⟨i, h1, h2, h3⟩
      rcases Nat.lt_or_eq_of_le (Nat.le_of_lt_succ h1) with z | z
      · exact Or.inl ⟨i, z, h2, h3⟩
      · exact Or.inr ⟨z ▸ h2, z ▸ h3⟩
theorem sel_lt (P : Nat → Bool) (n k : Nat) (hn : 0 < n) : gl (sel P n) k < n := gl_mem (P := fun z => z < n) hn (fun _ hx => (sel_mem.mp hx).1) k
theorem flt_lt {q : Nat → Bool} {L : List Nat} {b : Nat} (h : ∀ k, gl L k < b) (hb : 0 < b) (k : Nat) : gl (flt q L) k < b := gl_mem (P := fun z => z < b) hb (fun x hx => by
  obtain ⟨i, -, -, rfl⟩ := kp_mem.mp hx
  exact h i) k
theorem flt_len (q : Nat → Bool) (L : List Nat) : (flt q L).length ≤ L.length := kp_len q L _
theorem lCom_len (sr tg : Nat → Nat) (pr : Nat) : (lCom sr tg pr).length ≤ 4096 := sel_len _ _
theorem lLar_len (sr tg : Nat → Nat) (pr sf : Nat) : (lLar sr tg pr sf).length ≤ 4096 := sel_len _ _
theorem lPre_len (sr tg : Nat → Nat) (pr : Nat) : (lPre sr tg pr).length ≤ 4096 := Nat.le_trans (flt_len _ _) (lCom_len _ _ _)
theorem lCom_lt (sr tg : Nat → Nat) (pr k : Nat) : gl (lCom sr tg pr) k < 4096 := sel_lt _ _ _ (by decide)
theorem lLar_lt (sr tg : Nat → Nat) (pr sf k : Nat) : gl (lLar sr tg pr sf) k < 4096 := sel_lt _ _ _ (by decide)
theorem lPre_lt (sr tg : Nat → Nat) (pr k : Nat) : gl (lPre sr tg pr) k < 4096 := flt_lt (lCom_lt sr tg pr) (by decide) k
def ovF (LL : Nat → List Nat) (FF : Nat → Nat → Nat) (k : Nat) : Nat → Nat := ovr (LL k) (FF k)
theorem ldf_00 (pr : Nat) : ldf 0 pr = 0 := ldf_0.mpr (fun i hi => by rw [Nat.zero_testBit] at hi; cases hi)
theorem htA_gap {tg : Nat → Nat} {pr N : Nat} {f : Nat → Nat} (hp : pr.testBit N = false) : htA tg pr (2 ^ (N + 1)) f = htA tg pr (2 ^ N) f := htA_skip (Nat.pow_le_pow_right (by decide) (Nat.le_succ N)) (fun j h1 h2 => ldf_gap hp h1 h2)
theorem pow_dbl (N : Nat) : 2 ^ N + 2 ^ N = 2 ^ (N + 1) := by rw [Nat.pow_succ, Nat.mul_two]
