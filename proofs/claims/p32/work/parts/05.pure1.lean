/-! pure 1: what the loops of the class answer, over numbers -/
theorem f_bool (b : Bool) : fits .boolean (.int (nI b.toNat)) = true := by cases b <;> rfl
theorem andL31 {a b : Nat} (h : a < 2147483648) : a &&& b < 2147483648 := Nat.lt_of_le_of_lt Nat.and_le_left h
theorem and1lt (a : Nat) : a &&& 1 < 2147483648 := Nat.lt_of_le_of_lt Nat.and_le_right (by decide)
theorem or12 {a b : Nat} (ha : a < 4096) (hb : b < 4096) : a ||| b < 4096 := Nat.or_lt_two_pow (n := 12) ha hb
theorem and12 {a b : Nat} (ha : a < 4096) : a &&& b < 4096 := Nat.lt_of_le_of_lt Nat.and_le_left ha
theorem ldf12 {a b : Nat} (ha : a < 4096) : ldf a b < 4096 := Nat.lt_of_le_of_lt (ldf_le a b) ha
theorem pow12 {k : Nat} (h : k < 12) : 2 ^ k < 4096 := Nat.pow_lt_pow_right (a := 2) (n := 12) (by decide) h
theorem sw12 {n k : Nat} {b : Bool} (hn : n < 4096) (hk : k < 12) : sw n k b < 4096 := sw_lt (m := 12) hn hk
theorem mks12 (p : Nat → Bool) : mks p 12 < 4096 := mks_lt p 12
theorem tb12 {n : Nat} (h : n < 4096) {i : Nat} (hi : 12 ≤ i) : n.testBit i = false := tb_lt (k := 12) h hi
theorem has_r (n k v : Nat) (h : (n / 2 ^ k &&& 1 = 1 ∧ v = 1) ∨ (n / 2 ^ k &&& 1 ≠ 1 ∧ v = 0)) : nI v = nI (n.testBit k).toNat := by
  rw [q_tb1] at h
  revert h
  cases n.testBit k
  · rintro (⟨h, -⟩ | ⟨-, rfl⟩)
    · exact absurd h (by decide)
    · rfl
  · rintro (⟨-, rfl⟩ | ⟨h, -⟩)
    · rfl
    · exact absurd rfl h
/-- all that members attack, by a table -/
def hitU (tg : Nat → Nat) (n : Nat) : Nat → Nat
  | 0 => 0
  | k + 1 => if n.testBit k then hitU tg n k ||| tg k else hitU tg n k
def hit (tg : Nat → Nat) (n : Nat) : Nat := hitU tg n 12
theorem hitU_t {tg : Nat → Nat} {n k : Nat} (h : n.testBit k = true) : hitU tg n (k + 1) = hitU tg n k ||| tg k := if_pos h
theorem hitU_f {tg : Nat → Nat} {n k : Nat} (h : n.testBit k = false) : hitU tg n (k + 1) = hitU tg n k := if_neg (by rw [h]; decide)
theorem hitU_lt {tg : Nat → Nat} {n : Nat} (ht : ∀ k, tg k < 4096) : ∀ k, hitU tg n k < 4096
  | 0 => (by decide : 0 < 4096)
  | k + 1 => by
    unfold hitU
    split
    · exact or12 (hitU_lt ht k) (ht k)
    · exact hitU_lt ht k
theorem hit_lt {tg : Nat → Nat} {n : Nat} (ht : ∀ k, tg k < 4096) : hit tg n < 4096 := hitU_lt ht 12
/-- the arguments inside that nothing inside attacks but what is hit -/
def safeP (sr : Nat → Nat) (hi inside : Nat) (a : Nat) : Bool := inside.testBit a && (sr a &&& ldf inside hi) == 0
def safe (sr : Nat → Nat) (hi inside : Nat) : Nat := mks (safeP sr hi inside) 12
theorem safe_lt (sr : Nat → Nat) (hi inside : Nat) : safe sr hi inside < 4096 := mks12 _
theorem mks_t {p : Nat → Bool} {k : Nat} (h : p k = true) : mks p (k + 1) = mks p k ||| 2 ^ k := if_pos h
theorem mks_f {p : Nat → Bool} {k : Nat} (h : p k = false) : mks p (k + 1) = mks p k := if_neg (by rw [h]; decide)
theorem safeP_t {sr : Nat → Nat} {hi inside a : Nat} (h1 : inside.testBit a = true) (h2 : sr a &&& ldf inside hi = 0) : safeP sr hi inside a = true := by
  unfold safeP; rw [h1, h2]; rfl
theorem safeP_f1 {sr : Nat → Nat} {hi inside a : Nat} (h1 : inside.testBit a = false) : safeP sr hi inside a = false := by
  unfold safeP; rw [h1]; rfl
theorem safeP_f2 {sr : Nat → Nat} {hi inside a : Nat} (h2 : sr a &&& ldf inside hi ≠ 0) : safeP sr hi inside a = false := by
  unfold safeP; rw [beq_false_of_ne h2, Bool.and_false]
def itN (F : Nat → Nat) : Nat → Nat → Nat
  | 0, x => x
  | k + 1, x => F (itN F k x)
theorem itN_fix {F : Nat → Nat} {k x : Nat} (h : F (itN F k x) = itN F k x) : ∀ {m : Nat}, k ≤ m → itN F m x = itN F k x
  | 0, hm => by rw [show k = 0 by omega]
  | m + 1, hm => by
    rcases Nat.lt_or_ge m k with q | q
    · rw [show k = m + 1 by omega]
    · show F (itN F m x) = _
      rw [itN_fix h q, h]
theorem itN_lt {F : Nat → Nat} {x : Nat} (hx : x < 4096) (hF : ∀ y, y < 4096 → F y < 4096) : ∀ k, itN F k x < 4096
  | 0 => hx
  | k + 1 => hF _ (itN_lt hx hF k)
def gby (sr tg : Nat → Nat) (pr n : Nat) : Nat := safe sr (hit tg n) pr
def gpa (sr tg : Nat → Nat) (pr : Nat) : Nat → Nat → Nat := itN (fun x => x &&& gby sr tg pr x)
def grw (sr tg : Nat → Nat) (ins : Nat) (k : Nat) : Nat := itN (fun x => gby sr tg ins x) k 0
theorem gby_lt (sr tg : Nat → Nat) (pr n : Nat) : gby sr tg pr n < 4096 := safe_lt _ _ _
theorem gpa_lt {sr tg : Nat → Nat} {pr n : Nat} (hn : n < 4096) (k : Nat) : gpa sr tg pr k n < 4096 := itN_lt hn (fun _ hy => and12 hy) k
theorem grw_lt (sr tg : Nat → Nat) (ins k : Nat) : grw sr tg ins k < 4096 := itN_lt (by decide) (fun _ _ => gby_lt _ _ _ _) k
theorem grw_fix {sr tg : Nat → Nat} {ins k m : Nat} (h : gby sr tg ins (grw sr tg ins k) = grw sr tg ins k) (hm : k ≤ m) : grw sr tg ins m = grw sr tg ins k := itN_fix h hm
/-- (even, odd) ways of so many steps -/
def rchE (tg : Nat → Nat) (a : Nat) : Nat → Nat × Nat
  | 0 => (0, tg a)
  | k + 1 => ((rchE tg a k).1 ||| hit tg (rchE tg a k).2, (rchE tg a k).2 ||| hit tg ((rchE tg a k).1 ||| hit tg (rchE tg a k).2))
theorem rchE_lt {tg : Nat → Nat} {a : Nat} (ht : ∀ k, tg k < 4096) : ∀ k, (rchE tg a k).1 < 4096 ∧ (rchE tg a k).2 < 4096
  | 0 => ⟨(by decide : 0 < 4096), ht a⟩
  | k + 1 => ⟨or12 (rchE_lt ht k).1 (hit_lt ht), or12 (rchE_lt ht k).2 (hit_lt ht)⟩
/-- the attack of f on t works -/
def wkb (wt mk : Nat → Nat) (pr tol f t : Nat) : Bool := (mk f &&& pr).testBit t && pr.testBit f && decide (wt t ≤ wt f + tol)
/-- up to place (F, T) of the double loop -/
def upto (F T f t : Nat) : Bool := decide (f < F) || (decide (f = F) && decide (t < T))
def bS (wk : Nat → Nat → Bool) (F T : Nat) (t : Nat) : Nat := mks (fun f => wk f t && upto F T f t) 12
def bG (wk : Nat → Nat → Bool) (F T : Nat) (f : Nat) : Nat := mks (fun t => wk f t && upto F T f t) 12
def bA (wk : Nat → Nat → Bool) (F T : Nat) : Nat := mks (fun a => wk a a && upto F T a a) 12
def clr (f : Nat → Nat) (k : Nat) : Nat → Nat := fun j => if j < k then 0 else f j
theorem clr_s (f : Nat → Nat) (k : Nat) : updN (clr f k) k 0 = clr f (k + 1) := by
  funext j
  unfold updN clr
  by_cases h : j = k
  · rw [if_pos h, if_pos (by omega)]
  · rw [if_neg h]
    by_cases h2 : j < k
    · rw [if_pos h2, if_pos (by omega)]
    · rw [if_neg h2, if_neg (by omega)]
theorem clr_0 (f : Nat → Nat) : clr f 0 = f := by
  funext j
  unfold clr
  rw [if_neg (Nat.not_lt_zero j)]
theorem updN_same (f : Nat → Nat) (k : Nat) : updN f k (f k) = f := by
  funext j
  unfold updN
  by_cases h : j = k
  · rw [if_pos h, h]
  · rw [if_neg h]
theorem upto_next (F T f t : Nat) : upto F (T + 1) f t = (upto F T f t || (decide (f = F) && decide (t = T))) := by
  unfold upto
  have e : decide (t < T + 1) = (decide (t < T) || decide (t = T)) := by
    rw [← Bool.decide_or]
    exact decide_eq_decide.mpr (by omega)
  rw [e]
  cases decide (f < F) <;> cases decide (f = F) <;> cases decide (t < T) <;> cases decide (t = T) <;> rfl
theorem upto_row (F f t : Nat) (ht : t < 12) : upto F 12 f t = upto (F + 1) 0 f t := by
  unfold upto
  rw [decide_eq_true ht, Bool.and_true, decide_eq_false (Nat.not_lt_zero t), Bool.and_false, Bool.or_false, ← Bool.decide_or]
  exact decide_eq_decide.mpr (by omega)
theorem upto_00 (f t : Nat) : upto 0 0 f t = false := by
  unfold upto
  simp
theorem upto_end (f t : Nat) (hf : f < 12) : upto 12 0 f t = true := by
  unfold upto
  rw [decide_eq_true hf]
  rfl
theorem bS_row (wk : Nat → Nat → Bool) (h12 : ∀ f t, 12 ≤ t → wk f t = false) (F : Nat) : bS wk F 12 = bS wk (F + 1) 0 := by
  funext t
  refine mks_ext (fun f _ => ?_)
  by_cases ht : t < 12
  · rw [upto_row F f t ht]
  · rw [h12 f t (by omega)]; rfl
theorem bG_row (wk : Nat → Nat → Bool) (F : Nat) : bG wk F 12 = bG wk (F + 1) 0 := by
  funext f
  exact mks_ext (fun t ht => by rw [upto_row F f t ht])
theorem bA_row (wk : Nat → Nat → Bool) (F : Nat) : bA wk F 12 = bA wk (F + 1) 0 := mks_ext (fun a ha => by rw [upto_row F a a ha])
theorem mks_add {p q : Nat → Bool} {n k : Nat} (hk : k < n) (hq : ∀ i, i < n → q i = (p i || decide (i = k))) : mks q n = mks p n ||| 2 ^ k := by
  apply Nat.eq_of_testBit_eq
  intro i
  rw [Nat.testBit_or, mks_tb, mks_tb, tb_pow]
  by_cases hi : i < n
  · rw [hq i hi]
    simp [hi, eq_comm]
  · have : ¬ k = i := by omega
    simp [hi, this]
theorem bS_no {wk : Nat → Nat → Bool} {F T : Nat} (h : wk F T = false) : bS wk F (T + 1) = bS wk F T := by
  funext t
  refine mks_ext (fun f _ => ?_)
  rw [upto_next]
  by_cases h1 : f = F
  · by_cases h2 : t = T
    · rw [h1, h2, h]; rfl
    · simp [h2]
  · simp [h1]
theorem bG_no {wk : Nat → Nat → Bool} {F T : Nat} (h : wk F T = false) : bG wk F (T + 1) = bG wk F T := by
  funext f
  refine mks_ext (fun t _ => ?_)
  rw [upto_next]
  by_cases h1 : f = F
  · by_cases h2 : t = T
    · rw [h1, h2, h]; rfl
    · simp [h2]
  · simp [h1]
theorem bA_no {wk : Nat → Nat → Bool} {F T : Nat} (h : wk F T = false ∨ F ≠ T) : bA wk F (T + 1) = bA wk F T := by
  refine mks_ext (fun a _ => ?_)
  rw [upto_next]
  by_cases h1 : a = F
  · by_cases h2 : a = T
    · rcases h with h | h
      · rw [← h1, ← h2] at h; rw [h]; rfl
      · exact absurd (h1.symm.trans h2) h
    · simp [h2]
  · simp [h1]
theorem bS_yes {wk : Nat → Nat → Bool} {F T : Nat} (hF : F < 12) (h : wk F T = true) : updN (bS wk F T) T (bS wk F T T ||| 2 ^ F) = bS wk F (T + 1) := by
  funext t
  unfold updN
  by_cases h2 : t = T
  · subst h2
    rw [if_pos rfl]
    refine (mks_add hF (fun f _ => ?_)).symm
    rw [upto_next]
    by_cases h1 : f = F
    · subst h1; simp [h]
    · simp [h1]
  · rw [if_neg h2]
    refine mks_ext (fun f _ => ?_)
    rw [upto_next]
    simp [h2]
theorem bG_yes {wk : Nat → Nat → Bool} {F T : Nat} (hT : T < 12) (h : wk F T = true) : updN (bG wk F T) F (bG wk F T F ||| 2 ^ T) = bG wk F (T + 1) := by
  funext f
  unfold updN
  by_cases h1 : f = F
  · subst h1
    rw [if_pos rfl]
    refine (mks_add hT (fun t _ => ?_)).symm
    rw [upto_next]
    by_cases h2 : t = T
    · subst h2; simp [h]
    · simp [h2]
  · rw [if_neg h1]
    refine mks_ext (fun t _ => ?_)
    rw [upto_next]
    simp [h1]
theorem bA_yes {wk : Nat → Nat → Bool} {F T : Nat} (hF : F < 12) (e : F = T) (h : wk F T = true) : bA wk F T ||| 2 ^ T = bA wk F (T + 1) := by
  subst e
  refine (mks_add hF (fun a _ => ?_)).symm
  rw [upto_next]
  by_cases h1 : a = F
  · subst h1; simp [h]
  · simp [h1]
def srO (wk : Nat → Nat → Bool) (t : Nat) : Nat := mks (fun f => wk f t) 12
def tgO (wk : Nat → Nat → Bool) (f : Nat) : Nat := mks (fun t => wk f t) 12
def slO (wk : Nat → Nat → Bool) : Nat := mks (fun a => wk a a) 12
theorem bS_end (wk : Nat → Nat → Bool) : bS wk 12 0 = srO wk := by
  funext t
  exact mks_ext (fun f hf => by rw [upto_end f t hf, Bool.and_true])
theorem bG_end (wk : Nat → Nat → Bool) : bG wk 12 0 = fun f => if f < 12 then tgO wk f else 0 := by
  funext f
  by_cases hf : f < 12
  · rw [if_pos hf]
    exact mks_ext (fun t _ => by rw [upto_end f t hf, Bool.and_true])
  · rw [if_neg hf]
    have e : bG wk 12 0 f = mks (fun _ => false) 12 := mks_ext (fun t _ => by
      unfold upto
      have h1 : ¬ f < 12 := hf
      simp [h1])
    rw [e]
    apply Nat.eq_of_testBit_eq
    intro i
    rw [mks_tb]
    simp
theorem bA_end (wk : Nat → Nat → Bool) : bA wk 12 0 = slO wk := mks_ext (fun a ha => by rw [upto_end a a ha, Bool.and_true])
theorem bS_00 (wk : Nat → Nat → Bool) (t : Nat) : bS wk 0 0 t = 0 := by
  have e : bS wk 0 0 t = mks (fun _ => false) 12 := mks_ext (fun f _ => by rw [upto_00, Bool.and_false])
  rw [e]; apply Nat.eq_of_testBit_eq; intro i; rw [mks_tb]; simp
theorem bG_00 (wk : Nat → Nat → Bool) (t : Nat) : bG wk 0 0 t = 0 := by
  have e : bG wk 0 0 t = mks (fun _ => false) 12 := mks_ext (fun f _ => by rw [upto_00, Bool.and_false])
  rw [e]; apply Nat.eq_of_testBit_eq; intro i; rw [mks_tb]; simp
theorem bA_00 (wk : Nat → Nat → Bool) : bA wk 0 0 = 0 := by
  have e : bA wk 0 0 = mks (fun _ => false) 12 := mks_ext (fun f _ => by rw [upto_00, Bool.and_false])
  rw [e]; apply Nat.eq_of_testBit_eq; intro i; rw [mks_tb]; simp
theorem wk_le {a b t : Nat} (ha : a < 65536) (hb : b < 65536) (ht : t < 65536) : nI a - nI b ≤ nI t ↔ a ≤ b + t := by
  rw [Int32.le_iff_toInt_le, pk_sub_toInt (by omega) (by omega), nI_toInt (by omega)]
  omega
def unU (f : Nat → Nat) : Nat → Nat
  | 0 => 0
  | k + 1 => unU f k ||| f k
def coU (f : Nat → Nat) (al : Nat) : Nat → Nat
  | 0 => al
  | k + 1 => coU f al k &&& f k
theorem wk_lt {a b t : Nat} (ha : a < 65536) (hb : b < 65536) (ht : t < 65536) : nI t < nI a - nI b ↔ ¬ a ≤ b + t := by
  rw [Int32.lt_iff_toInt_lt, pk_sub_toInt (by omega) (by omega), nI_toInt (by omega)]
  omega
theorem wkb_t {wt mk : Nat → Nat} {pr tol F T : Nat} (h1 : (mk F &&& pr).testBit T = true) (h2 : pr.testBit F = true) (h3 : wt T ≤ wt F + tol) : wkb wt mk pr tol F T = true := by
  unfold wkb; rw [h1, h2, decide_eq_true h3]; rfl
theorem wkb_f1 {wt mk : Nat → Nat} {pr tol F T : Nat} (h1 : (mk F &&& pr).testBit T = false) : wkb wt mk pr tol F T = false := by
  unfold wkb; rw [h1]; rfl
theorem wkb_f2 {wt mk : Nat → Nat} {pr tol F T : Nat} (h2 : pr.testBit F = false) : wkb wt mk pr tol F T = false := by
  unfold wkb; rw [h2, Bool.and_false]; rfl
theorem wkb_f3 {wt mk : Nat → Nat} {pr tol F T : Nat} (h3 : ¬ wt T ≤ wt F + tol) : wkb wt mk pr tol F T = false := by
  unfold wkb; rw [decide_eq_false h3, Bool.and_false]
theorem wkb_12 {wt mk : Nat → Nat} {pr tol : Nat} (hpr : pr < 4096) (f t : Nat) (ht : 12 ≤ t) : wkb wt mk pr tol f t = false := wkb_f1 (by rw [Nat.testBit_and, tb12 hpr ht, Bool.and_false])
theorem bA_step {wk : Nat → Nat → Bool} {F T : Nat} (hF : F < 12) (h : wk F T = true) : (if F = T then bA wk F T ||| 2 ^ T else bA wk F T) = bA wk F (T + 1) := by
  by_cases e : F = T
  · rw [if_pos e]; exact bA_yes hF e h
  · rw [if_neg e]; exact (bA_no (Or.inr e)).symm
-- ===== lists in rows =====
def gl (L : List Nat) (k : Nat) : Nat := L.getD k 0
/-- a row whose first cells hold the list -/
def ovr (L : List Nat) (f : Nat → Nat) : Nat → Nat := fun k => if k < L.length then gl L k else f k
theorem ovr_nil (f : Nat → Nat) : ovr [] f = f := by
  funext k
  exact if_neg (Nat.not_lt_zero k)
theorem gl_app_l {L M : List Nat} {k : Nat} (h : k < L.length) : gl (L ++ M) k = gl L k := by
  unfold gl
  rw [List.getD_eq_getElem?_getD, List.getD_eq_getElem?_getD, List.getElem?_append_left h]
theorem gl_last (L : List Nat) (x : Nat) : gl (L ++ [x]) L.length = x := by
  unfold gl
  rw [List.getD_eq_getElem?_getD, List.getElem?_append_right (Nat.le_refl _), Nat.sub_self]
  rfl
theorem ovr_push (L : List Nat) (f : Nat → Nat) (x : Nat) : updN (ovr L f) L.length x = ovr (L ++ [x]) f := by
  funext k
  unfold updN ovr
  rw [List.length_append, show [x].length = 1 from rfl]
  by_cases h : k = L.length
  · rw [if_pos h, if_pos (by omega), h, gl_last]
  · rw [if_neg h]
    by_cases h2 : k < L.length
    · rw [if_pos h2, if_pos (by omega), gl_app_l h2]
    · rw [if_neg h2, if_neg (by omega)]
theorem ovr_at {L : List Nat} {f : Nat → Nat} {k : Nat} (h : k < L.length) : ovr L f k = gl L k := if_pos h
def adl (b : Bool) (L : List Nat) (x : Nat) : List Nat := if b then L ++ [x] else L
def sel (P : Nat → Bool) : Nat → List Nat
  | 0 => []
  | n + 1 => adl (P n) (sel P n) n
theorem adl_len (b : Bool) (L : List Nat) (x : Nat) : (adl b L x).length ≤ L.length + 1 := by
  unfold adl
  split
  · rw [List.length_append]; exact Nat.le_refl _
  · exact Nat.le_succ _
theorem sel_len (P : Nat → Bool) : ∀ n, (sel P n).length ≤ n
  | 0 => Nat.le_refl 0
  | n + 1 => Nat.le_trans (adl_len _ _ _) (Nat.succ_le_succ (sel_len P n))
theorem sel_skip {P : Nat → Bool} {a : Nat} : ∀ {b : Nat}, a ≤ b → (∀ j, a ≤ j → j < b → P j = false) → sel P b = sel P a
  | 0, h, _ => by rw [show a = 0 by omega]
  | b + 1, h, hP => by
    rcases Nat.lt_or_ge b a with q | q
    · rw [show a = b + 1 by omega]
    · show adl (P b) (sel P b) b = _
      rw [hP b q (Nat.lt_succ_self b)]
      exact sel_skip q (fun j h1 h2 => hP j h1 (by omega))
