/-! pure 3: what the calls of the class answer, over numbers -/
theorem srO_lt (wk : Nat → Nat → Bool) (k : Nat) : srO wk k < 4096 := mks12 _
theorem tgO_lt (wk : Nat → Nat → Bool) (k : Nat) : tgO wk k < 4096 := mks12 _
theorem slO_lt (wk : Nat → Nat → Bool) : slO wk < 4096 := mks12 _
-- ===== the bits of a set =====
def pcU (n : Nat) : Nat → Nat
  | 0 => 0
  | k + 1 => pcU n k + (n.testBit k).toNat
theorem pcU_le (n : Nat) : ∀ k, pcU n k ≤ k
  | 0 => Nat.le_refl 0
  | k + 1 => Nat.add_le_add (pcU_le n k) (by cases n.testBit k <;> decide)
def pc (n : Nat) : Nat := pcU n 12
theorem pc_le (n : Nat) : pc n ≤ 12 := pcU_le n 12
def ush (x : Int32) (k : Nat) : Int32 := (x.toUInt32 >>> ((nI k).toUInt32 &&& Int32.toUInt32 31)).toInt32
def bc1 (x : Int32) : Int32 := x - (ush x 1 &&& 1431655765)
def bc2 (x : Int32) : Int32 := (x &&& 858993459) + (ush x 2 &&& 858993459)
def bc3 (x : Int32) : Int32 := (x + ush x 4) &&& 252645135
def bc4 (x : Int32) : Int32 := x + ush x 8
def bc5 (x : Int32) : Int32 := x + ush x 16
def bcE (x : Int32) : Int32 := bc5 (bc4 (bc3 (bc2 (bc1 x)))) &&& nI 63
set_option maxRecDepth 100000 in
theorem bc_all : (List.range 4096).all (fun n => decide (bcE (nI n) = nI (pc n))) = true := by decide +kernel
theorem bc_pc {n : Nat} (h : n < 4096) : bcE (nI n) = nI (pc n) := by
  have q := List.all_eq_true.mp bc_all n (List.mem_range.mpr h)
  exact of_decide_eq_true q
def sumU (f : Nat → Nat) : Nat → Nat
  | 0 => 0
  | k + 1 => sumU f k + f k
theorem sumU_le {f : Nat → Nat} {B : Nat} (h : ∀ k, f k ≤ B) : ∀ n, sumU f n ≤ n * B
  | 0 => Nat.zero_le _
  | n + 1 => by
    show sumU f n + f n ≤ (n + 1) * B
    have h1 := sumU_le h n
    have h2 := h n
    rw [Nat.succ_mul]
    omega
theorem sumU_ext {f f' : Nat → Nat} : ∀ {n : Nat}, (∀ k, k < n → f k = f' k) → sumU f n = sumU f' n
  | 0, _ => rfl
  | n + 1, h => by
    show sumU f n + f n = sumU f' n + f' n
    rw [sumU_ext (fun k hk => h k (by omega)), h n (Nat.lt_succ_self n)]
-- ===== a number or -1 =====
def oI : Option Nat → Int32
  | none => -1
  | some n => nI n
theorem m1_toInt : ((-1 : Int32)).toInt = -1 := by decide
def gtO (o : Option Nat) (v : Nat) : Bool := match o with
  | none => true
  | some m => decide (m < v)
theorem oI_lt {o : Option Nat} {v : Nat} (hv : v < 2147483648) (ho : ∀ m, o = some m → m < 2147483648) : oI o < nI v ↔ gtO o v = true := by
  cases o with
  | none =>
    refine ⟨fun _ => rfl, fun _ => ?_⟩
    show (-1 : Int32) < nI v
    rw [Int32.lt_iff_toInt_lt, m1_toInt, nI_toInt hv]
    omega
  | some m =>
    show nI m < nI v ↔ decide (m < v) = true
    rw [decide_eq_true_iff]
    exact nI_ltI (ho m rfl) hv
theorem oI_le {o : Option Nat} {v : Nat} (hv : v < 2147483648) (ho : ∀ m, o = some m → m < 2147483648) : nI v ≤ oI o ↔ gtO o v = false := by
  cases o with
  | none =>
    refine ⟨fun h => ?_, fun h => by cases h⟩
    rw [show oI none = (-1 : Int32) from rfl, Int32.le_iff_toInt_le, m1_toInt, nI_toInt hv] at h
    omega
  | some m =>
    show nI v ≤ nI m ↔ decide (m < v) = false
    rw [decide_eq_false_iff_not, nI_leI hv (ho m rfl)]
    omega
theorem oI_eq {o : Option Nat} {v : Nat} (hv : v < 2147483648) (ho : ∀ m, o = some m → m < 2147483648) : nI v = oI o ↔ o = some v := by
  cases o with
  | none =>
    refine ⟨fun h => ?_, fun h => by cases h⟩
    have h2 := congrArg Int32.toInt h
    rw [show oI none = (-1 : Int32) from rfl, m1_toInt, nI_toInt hv] at h2
    omega
  | some m =>
    show nI v = nI m ↔ _
    rw [nI_eq hv (ho m rfl)]
    exact ⟨fun h => by rw [h], fun h => by cases h; rfl⟩
-- ===== the most quarrelsome =====
def mqQ (sr tg : Nat → Nat) (set k : Nat) : Nat := pc (sr k &&& set) + pc (tg k &&& set)
def mqB (w : Nat → Nat) (q : Nat → Nat) (set : Nat) : Nat → Nat × Option Nat
  | 0 => (0, none)
  | k + 1 => if set.testBit k = true ∧ (gtO (mqB w q set k).2 (q k) = true ∨ ((mqB w q set k).2 = some (q k) ∧ w k < w (mqB w q set k).1)) then (k, some (q k)) else mqB w q set k
theorem mqB_t {w q : Nat → Nat} {set k : Nat} (h1 : set.testBit k = true) (h2 : gtO (mqB w q set k).2 (q k) = true ∨ ((mqB w q set k).2 = some (q k) ∧ w k < w (mqB w q set k).1)) : mqB w q set (k + 1) = (k, some (q k)) := if_pos ⟨h1, h2⟩
theorem mqB_f {w q : Nat → Nat} {set k : Nat} (h : ¬ (set.testBit k = true ∧ (gtO (mqB w q set k).2 (q k) = true ∨ ((mqB w q set k).2 = some (q k) ∧ w k < w (mqB w q set k).1)))) : mqB w q set (k + 1) = mqB w q set k := if_neg h
theorem mqB_lt {w q : Nat → Nat} {set B : Nat} (hq : ∀ k, q k ≤ B) : ∀ k, (mqB w q set k).1 ≤ k ∧ ∀ m, (mqB w q set k).2 = some m → m ≤ B
  | 0 => ⟨Nat.le_refl 0, fun m h => by cases h⟩
  | k + 1 => by
    unfold mqB
    split
    · exact ⟨Nat.le_succ k, fun m h => by cases h; exact hq k⟩
    · exact ⟨Nat.le_succ_of_le (mqB_lt hq k).1, (mqB_lt hq k).2⟩
theorem mqB_lt1 {w q : Nat → Nat} {set : Nat} : ∀ k, (mqB w q set k).1 = 0 ∨ (mqB w q set k).1 < k
  | 0 => Or.inl rfl
  | k + 1 => by
    unfold mqB
    split
    · exact Or.inr (Nat.lt_succ_self k)
    · exact (mqB_lt1 k).elim Or.inl (fun h => Or.inr (Nat.lt_succ_of_lt h))
def mqW (w : Nat → Nat) (sr tg : Nat → Nat) (cnt set : Nat) : Nat := (mqB w (mqQ sr tg set) set cnt).1
theorem mqQ_le (sr tg : Nat → Nat) (set k : Nat) : mqQ sr tg set k ≤ 24 := Nat.add_le_add (pc_le _) (pc_le _)
theorem mqW_lt {w sr tg : Nat → Nat} {cnt set : Nat} (h : cnt ≤ 12) : mqW w sr tg cnt set < 12 := by
  rcases mqB_lt1 (w := w) (q := mqQ sr tg set) (set := set) cnt with q | q
  · unfold mqW; omega
  · unfold mqW; omega
/-- one step of the repair -/
def rpS (w sr tg : Nat → Nat) (cnt x : Nat) : Nat := if x &&& hit tg x = 0 then x else sw x (mqW w sr tg cnt x) false
def rpA (w sr tg : Nat → Nat) (cnt : Nat) : Nat → Nat → Nat := itN (rpS w sr tg cnt)
theorem rpS_lt {w sr tg : Nat → Nat} {cnt x : Nat} (h : cnt ≤ 12) (hx : x < 4096) : rpS w sr tg cnt x < 4096 := by
  unfold rpS
  split
  · exact hx
  · exact sw12 hx (mqW_lt h)
theorem rpA_lt {w sr tg : Nat → Nat} {cnt x : Nat} (h : cnt ≤ 12) (hx : x < 4096) (k : Nat) : rpA w sr tg cnt k x < 4096 := itN_lt hx (fun _ hy => rpS_lt h hy) k
theorem rpS_free {w sr tg : Nat → Nat} {cnt x : Nat} (h : x &&& hit tg x = 0) : rpS w sr tg cnt x = x := if_pos h
theorem rpS_not {w sr tg : Nat → Nat} {cnt x : Nat} (h : x &&& hit tg x ≠ 0) : rpS w sr tg cnt x = sw x (mqW w sr tg cnt x) false := if_neg h
-- ===== weights =====
def wOf (w : Nat → Nat) (cnt set : Nat) : Nat := sumU (fun a => if set.testBit a then w a else 0) cnt
theorem wOf_lt {w : Nat → Nat} {cnt set : Nat} (hw : ∀ k, w k < 65536) (hc : cnt ≤ 12) : wOf w cnt set < 2147483648 := by
  have h : wOf w cnt set ≤ cnt * 65536 := sumU_le (fun k => by
    split
    · exact Nat.le_of_lt (hw k)
    · exact Nat.zero_le _) cnt
  have h2 : cnt * 65536 ≤ 12 * 65536 := Nat.mul_le_mul_right _ hc
  omega
-- ===== the positions that the class keeps =====
def posK (sr tg : Nat → Nat) (pr sf k : Nat) : List Nat := posL sr tg pr sf (hit tg) k
theorem wdst_ext {hf hf' : Nat → Nat} {L : List Nat} (h : ∀ k, k < L.length → hf (gl L k) = hf' (gl L k)) (i : Nat) (hi : i < L.length) : wdst hf L i = wdst hf' L i := allF_ext (fun k hk => by
  unfold wdP covH
  rw [h k hk, h i hi])
theorem kp_ext {q q' : Nat → Bool} {L : List Nat} : ∀ {n : Nat}, (∀ i, i < n → q i = q' i) → kp q L n = kp q' L n
  | 0, _ => rfl
  | n + 1, h => by
    show adl (q n) (kp q L n) (gl L n) = adl (q' n) (kp q' L n) (gl L n)
    rw [kp_ext (fun i hi => h i (by omega)), h n (Nat.lt_succ_self n)]
theorem lWid_ext {hf hf' : Nat → Nat} {L : List Nat} (h : ∀ k, k < L.length → hf (gl L k) = hf' (gl L k)) : lWid hf L = lWid hf' L := kp_ext (fun i hi => wdst_ext h i hi)
theorem gl_in {L : List Nat} {k : Nat} (h : k < L.length) : gl L k ∈ L := by
  unfold gl
  rw [List.getD_eq_getElem?_getD, List.getElem?_eq_getElem h]
  exact List.getElem_mem h
theorem in_ldf {n pr : Nat} {x : Bool} (h : ((ldf n pr == 0) && x) = true) : ldf n pr = 0 := beq_iff_eq.mp (Bool.and_eq_true_iff.mp h).1
theorem lCom_in {sr tg : Nat → Nat} {pr x : Nat} (h : x ∈ lCom sr tg pr) : x < 4096 ∧ pC sr tg pr x = true := sel_mem.mp h
theorem lPre_in {sr tg : Nat → Nat} {pr x : Nat} (h : x ∈ lPre sr tg pr) : x < 4096 ∧ pC sr tg pr x = true := by
  obtain ⟨i, hi, -, rfl⟩ := kp_mem.mp h
  exact lCom_in (gl_in hi)
theorem lLar_in {sr tg : Nat → Nat} {pr sf x : Nat} (h : x ∈ lLar sr tg pr sf) : x < 4096 ∧ pL sr tg pr sf x = true := sel_mem.mp h
theorem posL_can {sr tg : Nat → Nat} {pr sf : Nat} {f : Nat → Nat} (k : Nat) : posL sr tg pr sf (htA tg pr 4096 f) k = posK sr tg pr sf k := by
  have h1 : lWid (htA tg pr 4096 f) (lLar sr tg pr sf) = lWid (hit tg) (lLar sr tg pr sf) := lWid_ext (fun k hk => by
    obtain ⟨a, b⟩ := lLar_in (gl_in hk)
    exact htA_in a (in_ldf b))
  have h2 : lWid (htA tg pr 4096 f) (lPre sr tg pr) = lWid (hit tg) (lPre sr tg pr) := lWid_ext (fun k hk => by
    obtain ⟨a, b⟩ := lPre_in (gl_in hk)
    exact htA_in a (in_ldf b))
  unfold posK posL
  split
  · rfl
  · rfl
  · rfl
  · rfl
  · exact h1
  · exact h2
  · rfl
  · rfl
def xL (wt mk : Nat → Nat) (pr tol k : Nat) : List Nat := posK (srO (wkb wt mk pr tol)) (tgO (wkb wt mk pr tol)) pr (slO (wkb wt mk pr tol)) k
theorem posK_len {sr tg : Nat → Nat} {pr sf : Nat} (k : Nat) : (posK sr tg pr sf k).length ≤ 4096 := by
  unfold posK posL
  split
  · exact lCom_len _ _ _
  · exact (by decide : 1 ≤ 4096)
  · exact lPre_len _ _ _
  · exact sel_len _ _
  · exact Nat.le_trans (flt_len _ _) (lLar_len _ _ _ _)
  · exact Nat.le_trans (flt_len _ _) (lPre_len _ _ _)
  · exact (by decide : 1 ≤ 4096)
  · exact lLar_len _ _ _ _
theorem posK_lt {sr tg : Nat → Nat} {pr sf : Nat} (hpr : pr < 4096) (k i : Nat) : gl (posK sr tg pr sf k) i < 4096 := by
  unfold posK posL
  split
  · exact lCom_lt _ _ _ _
  · exact gl_mem (P := fun z => z < 4096) (by decide) (fun x hx => by rw [List.mem_singleton.mp hx]; exact grw_lt _ _ _ _) i
  · exact lPre_lt _ _ _ _
  · exact sel_lt _ _ _ (by decide)
  · exact flt_lt (lLar_lt _ _ _ _) (by decide) _
  · exact flt_lt (lPre_lt _ _ _) (by decide) _
  · exact gl_mem (P := fun z => z < 4096) (by decide) (fun x hx => by rw [List.mem_singleton.mp hx]; exact gpa_lt (Nat.lt_of_le_of_lt (coU_le _ _ _) hpr) _) i
  · exact lLar_lt _ _ _ _ _
theorem xL_len (wt mk : Nat → Nat) (pr tol k : Nat) : (xL wt mk pr tol k).length ≤ 4096 := posK_len k
theorem xL_lt {wt mk : Nat → Nat} {pr tol : Nat} (hpr : pr < 4096) (k i : Nat) : gl (xL wt mk pr tol k) i < 4096 := posK_lt hpr k i
def nFF (sd : Bool) (LL : Nat → List Nat) (FF : Nat → Nat → Nat) : Nat → Nat → Nat := if sd then FF else ovF LL FF
def nH (sd : Bool) (tg : Nat → Nat) (pr : Nat) (hf : Nat → Nat) : Nat → Nat := if sd then hf else htA tg pr 4096 hf
-- ===== the heaviest =====
def hvB (W L : Nat → Nat) : Nat → Option Nat × Option Nat
  | 0 => (none, none)
  | k + 1 => if gtO (hvB W L k).2 (W k) then (some (L k), some (W k)) else hvB W L k
theorem hvB_t {W L : Nat → Nat} {k : Nat} (h : gtO (hvB W L k).2 (W k) = true) : hvB W L (k + 1) = (some (L k), some (W k)) := if_pos h
theorem hvB_f {W L : Nat → Nat} {k : Nat} (h : gtO (hvB W L k).2 (W k) = false) : hvB W L (k + 1) = hvB W L k := if_neg (by rw [h]; decide)
theorem hvB_lt {W L : Nat → Nat} {B : Nat} (hW : ∀ k, W k < B) : ∀ k m, (hvB W L k).2 = some m → m < B
  | 0, m, h => by cases h
  | k + 1, m, h => by
    unfold hvB at h
    split at h
    · cases h; exact hW k
    · exact hvB_lt hW k m h
-- ===== rounds =====
/-- the first of 1 .. n with p, or 0 -/
def fnd (p : Nat → Bool) : Nat → Nat
  | 0 => 0
  | n + 1 => if fnd p n ≠ 0 then fnd p n else if p (n + 1) then n + 1 else 0
theorem fnd_s {p : Nat → Bool} {n : Nat} (h : fnd p n = 0) (b : Bool) (hb : p (n + 1) = b) : fnd p (n + 1) = if b then n + 1 else 0 := by
  unfold fnd
  rw [if_neg (fun q => q h), hb]
theorem fnd_stay {p : Nat → Bool} {n : Nat} (h : fnd p n ≠ 0) : ∀ {m : Nat}, n ≤ m → fnd p m = fnd p n
  | 0, hm => by rw [show n = 0 by omega]
  | m + 1, hm => by
    rcases Nat.lt_or_ge m n with q | q
    · rw [show n = m + 1 by omega]
    · have ih := fnd_stay h q
      show (if fnd p m ≠ 0 then fnd p m else if p (m + 1) then m + 1 else 0) = fnd p n
      rw [ih, if_pos h]
/-- the first below n with p, or n -/
def fst0 (p : Nat → Bool) : Nat → Nat
  | 0 => 0
  | n + 1 => if fst0 p n < n then fst0 p n else if p n then n else n + 1
theorem fst0_le (p : Nat → Bool) : ∀ n, fst0 p n ≤ n
  | 0 => Nat.le_refl 0
  | n + 1 => by
    unfold fst0
    split
    · exact Nat.le_succ_of_le (fst0_le p n)
    · split
      · exact Nat.le_succ n
      · exact Nat.le_refl _
theorem fst0_n {p : Nat → Bool} {n : Nat} (h : fst0 p n = n) (hp : p n = false) : fst0 p (n + 1) = n + 1 := by
  unfold fst0
  rw [if_neg (by omega), hp]
  rfl
theorem fst0_y {p : Nat → Bool} {n : Nat} (h : fst0 p n = n) (hp : p n = true) : ∀ {m : Nat}, n < m → fst0 p m = n
  | 0, hm => absurd hm (Nat.not_lt_zero n)
  | m + 1, hm => by
    rcases Nat.lt_or_eq_of_le (Nat.le_of_lt_succ hm) with q | q
    · have ih := fst0_y h hp q
      unfold fst0
      rw [if_pos (by omega), ih]
    · subst q
      unfold fst0
      rw [if_neg (by omega), hp]
      rfl
-- ===== silence =====
def ltO (c : Nat) (o : Option Nat) : Bool := match o with
  | none => decide (c < 13)
  | some b => decide (c < pc b)
def fwO (o : Option Nat) : Nat := match o with
  | none => 13
  | some b => pc b
theorem ltO_iff {c : Nat} {o : Option Nat} : ltO c o = decide (c < fwO o) := by cases o <;> rfl
theorem fwO_le (o : Option Nat) : fwO o ≤ 13 := by
  cases o with
  | none => exact Nat.le_refl _
  | some b => exact Nat.le_succ_of_le (pc_le b)
def slU (ok : Nat → Bool) : Nat → Option Nat
  | 0 => none
  | k + 1 => if ok k && ltO (pc k) (slU ok k) then some k else slU ok k
theorem slU_t {ok : Nat → Bool} {k : Nat} (h1 : ok k = true) (h2 : pc k < fwO (slU ok k)) : slU ok (k + 1) = some k := if_pos (by rw [h1, ltO_iff, decide_eq_true h2]; rfl)
theorem slU_f1 {ok : Nat → Bool} {k : Nat} (h1 : ok k = false) : slU ok (k + 1) = slU ok k := if_neg (by rw [h1]; exact Bool.false_ne_true)
theorem slU_f2 {ok : Nat → Bool} {k : Nat} (h2 : fwO (slU ok k) ≤ pc k) : slU ok (k + 1) = slU ok k := if_neg (by rw [ltO_iff, decide_eq_false (by omega), Bool.and_false]; exact Bool.false_ne_true)
def slOk (sr tg : Nat → Nat) (pr a n : Nat) : Bool := (ldf n (sw pr a false) == 0) && (grw sr tg (ldf pr n) 12).testBit a
def slR (sr tg : Nat → Nat) (pr a : Nat) : Option Nat := if pr.testBit a = false ∨ (sr a).testBit a = true then none else slU (slOk sr tg pr a) 4096
-- ===== tolerance =====
def jI : Nat → Int32
  | 0 => -1
  | j + 1 => nI j
theorem jI_neg {j : Nat} (hj : j < 2147483648) : jI j < 0 ↔ j = 0 := by
  cases j with
  | zero => exact ⟨fun _ => rfl, fun _ => by decide⟩
  | succ j => exact ⟨fun h => absurd h (nI_pos (by omega)), fun h => by cases h⟩
theorem jI_pred {j : Nat} : nI j + (-1) = jI j := by
  cases j with
  | zero => decide
  | succ j => exact pk_m1 j
/-- the greatest below n with p -/
def tlU (p : Nat → Bool) : Nat → Option Nat
  | 0 => none
  | n + 1 => if p n then some n else tlU p n
def rchv (tg : Nat → Nat) (t : Bool) (a : Nat) : Nat := if t then (rchE tg a 12).1 else (rchE tg a 12).2
theorem rchv_lt {tg : Nat → Nat} (h : ∀ k, tg k < 4096) (t : Bool) (a : Nat) : rchv tg t a < 4096 := by
  unfold rchv
  split
  · exact (rchE_lt h 12).1
  · exact (rchE_lt h 12).2
theorem sw_mks {p : Nat → Bool} {k : Nat} : sw (mks p k) k (p k) = mks p (k + 1) := by
  apply Nat.eq_of_testBit_eq
  intro i
  rw [sw_tb, mks_tb, mks_tb]
  by_cases h : i = k
  · rw [if_pos h, h]; simp
  · rw [if_neg h]
    have e : decide (i < k + 1) = decide (i < k) := decide_eq_decide.mpr (by omega)
    rw [e]
-- ===== the checksum =====
def mxI (s : Int64) (n : Nat) : Int64 := s * 31 + (nI n).toInt64
def mxb (b : Bool) : Int64 := if b then 1 else 0
def dgA (w : Nat → Nat) (pr : Nat) (sr : Nat → Nat) (s : Int64) : Nat → Int64
  | 0 => s
  | k + 1 => mxI (mxI (dgA w pr sr s k) (w k) * 31 + mxb (pr.testBit k)) (sr k)
def dgL (L : Nat → Nat) (s : Int64) : Nat → Int64
  | 0 => s
  | k + 1 => mxI (dgL L s k) (L k)
def dgK (LL : Nat → List Nat) (s : Int64) : Nat → Int64
  | 0 => s
  | k + 1 => dgL (gl (LL k)) (mxI (dgK LL s k) (LL k).length) (LL k).length
def dgT (w : Nat → Nat) (cnt pr tol : Nat) (sr : Nat → Nat) (LL : Nat → List Nat) : Int64 := dgK LL (mxI (dgA w pr sr (mxI 163 cnt) cnt) tol) 7
