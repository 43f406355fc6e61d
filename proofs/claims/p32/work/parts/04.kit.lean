/-! 03 kit: rows over numbers (nI n), worlds and calls in one row each -/
-- ===== bits of numbers =====
def ldf (a b : Nat) : Nat := a ^^^ (a &&& b)
theorem ldf_tb (a b i : Nat) : (ldf a b).testBit i = (a.testBit i && !b.testBit i) := by
  unfold ldf
  rw [Nat.testBit_xor, Nat.testBit_and]
  cases a.testBit i <;> cases b.testBit i <;> rfl
theorem ldf_le (a b : Nat) : ldf a b ≤ a := by
  have h : ldf a b &&& a = ldf a b := by
    apply Nat.eq_of_testBit_eq
    intro i
    rw [Nat.testBit_and, ldf_tb]
    cases a.testBit i <;> cases b.testBit i <;> rfl
  rw [← h]
  exact Nat.and_le_right
theorem q_bv (n : Nat) : (nI n).toBitVec = BitVec.ofNat 32 n := rfl
theorem q_m1 : (-1 : Int32).toBitVec = BitVec.allOnes 32 := by decide
theorem q_ext {x y : Int32} (h : x.toBitVec = y.toBitVec) : x = y := Int32.toBitVec_inj.mp h
theorem nI_and (a b : Nat) : nI a &&& nI b = nI (a &&& b) := by
  apply q_ext
  rw [Int32.toBitVec_and, q_bv, q_bv, q_bv]
  apply BitVec.eq_of_getLsbD_eq
  intro i hi
  simp [hi, Nat.testBit_and]
theorem nI_or (a b : Nat) : nI a ||| nI b = nI (a ||| b) := by
  apply q_ext
  rw [Int32.toBitVec_or, q_bv, q_bv, q_bv]
  apply BitVec.eq_of_getLsbD_eq
  intro i hi
  simp [hi, Nat.testBit_or]
theorem nI_ldf (a b : Nat) : nI a &&& (nI b ^^^ (-1)) = nI (ldf a b) := by
  apply q_ext
  rw [Int32.toBitVec_and, Int32.toBitVec_xor, q_m1, q_bv, q_bv, q_bv]
  apply BitVec.eq_of_getLsbD_eq
  intro i hi
  rw [BitVec.getLsbD_and, BitVec.getLsbD_xor, BitVec.getLsbD_allOnes, BitVec.getLsbD_ofNat, BitVec.getLsbD_ofNat, BitVec.getLsbD_ofNat, ldf_tb, decide_eq_true hi]
  cases a.testBit i <;> cases b.testBit i <;> rfl
theorem q_sl : ∀ n, n < 32 → ((nI n &&& 31).toBitVec.smod 32).toNat = n := by decide +kernel
theorem nI_shl1 {k : Nat} (h : k < 31) : nI 1 <<< (nI k &&& 31) = nI (2 ^ k) := by
  have h2 : 2 ^ k < 2 ^ 31 := Nat.pow_lt_pow_right (by decide) h
  rw [pk_shlN (nI k &&& 31) k (q_sl k (by omega)) (by omega)]
  rw [Nat.one_mul]
theorem nI_shr {n k : Nat} (hn : n < 2 ^ 31) (h : k < 32) : nI n >>> (nI k &&& 31) = nI (n / 2 ^ k) := pk_shrN hn (nI k &&& 31) k (q_sl k h)
theorem q_tb1 (n k : Nat) : n / 2 ^ k &&& 1 = (n.testBit k).toNat := by
  rw [Nat.and_one_is_mod, Nat.testBit_eq_decide_div_mod_eq]
  rcases Nat.mod_two_eq_zero_or_one (n / 2 ^ k) with h | h <;> rw [h] <;> rfl
def sw (n k : Nat) (b : Bool) : Nat := if b then n ||| 2 ^ k else ldf n (2 ^ k)
theorem tb_pow (k i : Nat) : (2 ^ k).testBit i = decide (k = i) := Nat.testBit_two_pow
theorem sw_tb (n k : Nat) (b : Bool) (i : Nat) : (sw n k b).testBit i = if i = k then b else n.testBit i := by
  unfold sw
  by_cases h : i = k
  · subst h
    cases b
    · rw [if_neg (by decide), ldf_tb, tb_pow]; simp
    · rw [if_pos rfl, Nat.testBit_or, tb_pow]; simp
  · cases b
    · rw [if_neg (by decide), ldf_tb, tb_pow, if_neg h]; simp [Ne.symm h]
    · rw [if_pos rfl, Nat.testBit_or, tb_pow, if_neg h]; simp [Ne.symm h]
theorem tb_lt {n k : Nat} (h : n < 2 ^ k) {i : Nat} (hi : k ≤ i) : n.testBit i = false := Nat.testBit_lt_two_pow (Nat.lt_of_lt_of_le h (Nat.pow_le_pow_right (by decide) hi))
theorem lt_tb {n k : Nat} (h : ∀ i, k ≤ i → n.testBit i = false) : n < 2 ^ k := Nat.lt_pow_two_of_testBit n (fun i hi => h i hi)
theorem sw_lt {n k m : Nat} {b : Bool} (hn : n < 2 ^ m) (hk : k < m) : sw n k b < 2 ^ m := by
  apply lt_tb
  intro i hi
  rw [sw_tb, if_neg (by omega)]
  exact tb_lt hn hi
/-- the set of the numbers below n with p -/
def mks (p : Nat → Bool) : Nat → Nat
  | 0 => 0
  | n + 1 => if p n then mks p n ||| 2 ^ n else mks p n
theorem mks_tb (p : Nat → Bool) : ∀ (n i : Nat), (mks p n).testBit i = (decide (i < n) && p i)
  | 0, i => by simp [mks]
  | n + 1, i => by
    have ih := mks_tb p n i
    unfold mks
    by_cases h : i = n
    · subst h
      cases hp : p i
      · simp [ih, hp]
      · simp [Nat.testBit_or, tb_pow, hp]
    · have e : decide (i < n + 1) = decide (i < n) := by
        by_cases h2 : i < n
        · simp [h2, Nat.lt_succ_of_lt h2]
        · have h3 : ¬ i < n + 1 := by omega
          simp [h2, h3]
      rw [e]
      cases hp : p n
      · simp [ih]
      · simp [Nat.testBit_or, tb_pow, ih, Ne.symm h]
theorem mks_lt (p : Nat → Bool) (n : Nat) : mks p n < 2 ^ n := by
  apply lt_tb
  intro i hi
  rw [mks_tb]
  simp [Nat.not_lt.mpr hi]
theorem mks_ext {p q : Nat → Bool} {n : Nat} (h : ∀ i, i < n → p i = q i) : mks p n = mks q n := by
  apply Nat.eq_of_testBit_eq
  intro i
  rw [mks_tb, mks_tb]
  by_cases hi : i < n
  · simp [h i hi]
  · simp [hi]
theorem mks_self {n m : Nat} (h : n < 2 ^ m) : mks (fun i => n.testBit i) m = n := by
  apply Nat.eq_of_testBit_eq
  intro i
  rw [mks_tb]
  by_cases hi : i < m
  · simp [hi]
  · simp [hi, tb_lt h (Nat.le_of_not_lt hi)]
def updN (f : Nat → Nat) (k x : Nat) : Nat → Nat := fun j => if j = k then x else f j
def updB (f : Nat → Bool) (k : Nat) (x : Bool) : Nat → Bool := fun j => if j = k then x else f j
abbrev aN (f : Nat → Nat) : Nat → Int32 := fun k => nI (f k)
abbrev aB (f : Nat → Bool) : Nat → Int32 := fun k => nI (f k).toNat
theorem upd_aN (f : Nat → Nat) (k : Nat) (x : Nat) : upd (aN f) k (nI x) = aN (updN f k x) := by
  funext j
  show (if j = k then nI x else nI (f j)) = nI (if j = k then x else f j)
  by_cases h : j = k
  · rw [if_pos h, if_pos h]
  · rw [if_neg h, if_neg h]
theorem upd_aB (f : Nat → Bool) (k : Nat) (x : Bool) : upd (aB f) k (nI x.toNat) = aB (updB f k x) := by
  funext j
  show (if j = k then nI x.toNat else nI (f j).toNat) = nI (if j = k then x else f j).toNat
  by_cases h : j = k
  · rw [if_pos h, if_pos h]
  · rw [if_neg h, if_neg h]
theorem b_n0 {b : Bool} : nI b.toNat = 0 ↔ b = false := by cases b <;> decide
theorem b_n1 {b : Bool} : ¬ nI b.toNat = 0 ↔ b = true := by cases b <;> decide
-- ===== the machine's standing facts =====
abbrev GK : Type := va_G × (ClassId × ClassId × ClassId × ClassId × ClassId)
abbrev gI (g : GK) : ClassId := g.2.1
abbrev gZ (g : GK) : ClassId := g.2.2.1
abbrev gBy (g : GK) : ClassId := g.2.2.2.1
abbrev gLo (g : GK) : ClassId := g.2.2.2.2.1
abbrev gDo (g : GK) : ClassId := g.2.2.2.2.2
abbrev gT (g : GK) : List (ClassId × FieldType) := [(gI g, .int)]
def nestL : List (String × Nat × MethodName × String) := [(RX0, 25, yX3_store, RX3), (RX0, 29, yX3_at, RX3), (RX0, 33, yX3_has, RX3), (RX1, 59, yX3_has, RX3), (RX1, 92, yX3_at, RX3), (RX1, 99, yX3_store, RX3), (RX2, 19, yX3_store, RX3), (RX2, 23, yX3_at, RX3)]
def gN (U : State) : Prop := ∀ q ∈ nestL, va_Nw (.methodLinkNest q.1 q.2.1 q.2.2.1 q.2.2.2) U
def gK (g : GK) (U : State) : Prop := va_K g.1 vwCl (gT g) U ∧ gN U
theorem gK_calling {g : GK} {U : State} {gg : JFrame} {mk : MethodId} {a : Array Value} (h : gK g U) : gK g (U.calling gg mk a) := ⟨va_K.moved (u := U) (U := U.calling gg mk a) (Vm.Alike.refl U.vm) h.1, fun q hq => va_Nw.same rfl rfl (h.2 q hq)⟩
theorem gK_warm {g : GK} {s U : State} (hW : s.WarmedH U.vm) (h : gK g s) : gK g U := ⟨va_K.moved hW.alike h.1, fun q hq => va_Nw.warmM hW (h.2 q hq)⟩
def gP (g : GK) (ws : va_W) (sz : Nat) : State → Prop := fun U => U.heap.size = sz ∧ va_P g.1 vwCl ws U.heap ∧ gK g U ∧ va_D (fun _ => True) ws
def gB (g : GK) (w0 : va_W) (sz : Nat) (w1 : va_W) (t : State) : Prop := va_P g.1 vwCl w1 t.heap ∧ va_D (va_A w0 sz) w1
theorem gP_blind {g : GK} {ws : va_W} {sz : Nat} {As : List Value} : FrameBlind (va_Pc As (gP g ws sz)) := fun a U gg mk h => ⟨h.1, h.2.1, h.2.2.1, gK_calling h.2.2.2.1, h.2.2.2.2⟩
/-- the environment of a walk -/
def qE (g : GK) (p : Program) (m : MethodId) (c : Code) (cc : ByteArray) (nL : Nat) (s : State) (args : Array Value) (Ts : List Cond) (own : String) (A : Nat → Prop) : Prop := CallFix p m c cc nL s args Ts own ∧ gK g s ∧ ∀ q, s.heap.size ≤ q → A q
/-- the heap of a walk -/
def qH (g : GK) (A : Nat → Prop) (s : State) (ws : va_W) (H : Heap) (locs : List Loc) : Prop := va_P g.1 vwCl ws H ∧ va_D A ws ∧ va_S A s.heap H locs
theorem qH.perm {g : GK} {A : Nat → Prop} {s : State} {ws ws' : va_W} {H : Heap} {locs : List Loc} (h : qH g A s ws H locs) (is : List Nat) (hn : va_nd is = true) (hs : is.map (fun i => ws[i]?) = ws'.map some) : qH g A s ws' H locs := by
  refine ⟨h.1.sub is ?_, h.2.1.sub is hn hs, h.2.2⟩
  have e : is.filterMap (fun i => ws[i]?) = (is.map (fun i => ws[i]?)).filterMap id := by rw [List.filterMap_map]; rfl
  rw [e, hs, List.filterMap_map]
  induction ws' with
  | nil => rfl
  | cons a l _ => exact List.filterMap_some
/-- an array's cell is told by its contents below its length -/
theorem q_arr_ext {cA : ClassId} {n : Nat} {f f' : Nat → Int32} (h : ∀ k, k < n → f k = f' k) : vp_cell cA (n, .inl f) = vp_cell cA (n, .inl f') := by
  rw [vp_cell_i, vp_cell_i]
  unfold arrV
  have e : (fun j : Fin n => Value.int (f j.val)) = fun j : Fin n => Value.int (f' j.val) := funext fun j => by rw [h j.val j.isLt]
  rw [e]
theorem qH.arr {g : GK} {A : Nat → Prop} {s : State} {ws : va_W} {H : Heap} {locs : List Loc} (h : qH g A s ws H locs) (q0 : Nat) {a : Nat} {cA : ClassId} {n : Nat} {f f' : Nat → Int32} (ha : ws[q0]? = some (a, .inl (cA, n, .inl f))) (hf : ∀ k, k < n → f k = f' k) : qH g A s (ws.set q0 (a, .inl (cA, n, .inl f'))) H locs := by
  refine ⟨h.1.set h.2.1 ha ?_ (fun _ _ => rfl), h.2.1.set ha, h.2.2⟩
  have h1 : H[a]? = some (vp_cell cA (n, .inl f)) := h.1 q0 _ ha
  show H[a]? = some (vp_cell cA (n, .inl f'))
  rw [h1, q_arr_ext hf]
section QK
variable {p : Program} {l : Launch} {e : Env} {R : Room} {s : State} {m : MethodId} {args : Array Value} {below : List Frame} {meth : Method} {c : Code} {H : Heap} {locs : List Loc} {cells slots : Nat} {Q : State → Prop}
variable {cc : ByteArray} {pc nL : Nat} {ls : Array Slot} {rest : List Value} {g : GK} {A : Nat → Prop} {ws : va_W} {Ts : List Cond} {own : String}
-- ===== numbers =====
theorem q_ic (E : qE g p m c cc nL s args Ts own A) {n : Int} (v : Nat) (hdg : decode cc pc = .ok (.iconst n, 1)) (hv : Int32.ofInt n = nI v) (k : W p l e R s m args below meth c H locs cells slots Q (F0 m (pc + 1) ls (.int (nI v) :: rest))) : W p l e R s m args below meth c H locs cells slots Q (F0 m pc ls rest) := lv_iconst E.1.1 E.1.2.1 hdg hv k
theorem q_im1 (E : qE g p m c cc nL s args Ts own A) (hdg : decode cc pc = .ok (.iconst (-1), 1)) (k : W p l e R s m args below meth c H locs cells slots Q (F0 m (pc + 1) ls (.int (-1) :: rest))) : W p l e R s m args below meth c H locs cells slots Q (F0 m pc ls rest) := lv_iconst E.1.1 E.1.2.1 hdg (by decide) k
theorem q_bi (E : qE g p m c cc nL s args Ts own A) {n : Int} (v : Nat) (hdg : decode cc pc = .ok (.bipush n, 2)) (hv : (Int8.ofInt n).toInt32 = nI v) (k : W p l e R s m args below meth c H locs cells slots Q (F0 m (pc + 2) ls (.int (nI v) :: rest))) : W p l e R s m args below meth c H locs cells slots Q (F0 m pc ls rest) := lv_bipush E.1.1 E.1.2.1 hdg hv k
theorem q_si (E : qE g p m c cc nL s args Ts own A) {n : Int} (v : Nat) (hdg : decode cc pc = .ok (.sipush n, 3)) (hv : (Int16.ofInt n).toInt32 = nI v) (k : W p l e R s m args below meth c H locs cells slots Q (F0 m (pc + 3) ls (.int (nI v) :: rest))) : W p l e R s m args below meth c H locs cells slots Q (F0 m pc ls rest) := lv_sipush E.1.1 E.1.2.1 hdg hv k
theorem q_add (E : qE g p m c cc nL s args Ts own A) {a b : Nat} (hdg : decode cc pc = .ok (.iadd, 1)) (k : W p l e R s m args below meth c H locs cells slots Q (F0 m (pc + 1) ls (.int (nI (a + b)) :: rest))) : W p l e R s m args below meth c H locs cells slots Q (F0 m pc ls (.int (nI b) :: .int (nI a) :: rest)) := lv_iadd E.1.1 E.1.2.1 hdg (by rw [nI_add]; exact k)
theorem q_mul (E : qE g p m c cc nL s args Ts own A) {a b : Nat} (hdg : decode cc pc = .ok (.imul, 1)) (k : W p l e R s m args below meth c H locs cells slots Q (F0 m (pc + 1) ls (.int (nI (a * b)) :: rest))) : W p l e R s m args below meth c H locs cells slots Q (F0 m pc ls (.int (nI b) :: .int (nI a) :: rest)) := lv_imul E.1.1 E.1.2.1 hdg (by rw [pk_mul]; exact k)
theorem q_sub (E : qE g p m c cc nL s args Ts own A) {a b : Nat} (hab : b ≤ a) (hdg : decode cc pc = .ok (.isub, 1)) (k : W p l e R s m args below meth c H locs cells slots Q (F0 m (pc + 1) ls (.int (nI (a - b)) :: rest))) : W p l e R s m args below meth c H locs cells slots Q (F0 m pc ls (.int (nI b) :: .int (nI a) :: rest)) := lv_isub E.1.1 E.1.2.1 hdg (by rw [pk_sub hab]; exact k)
theorem q_and (E : qE g p m c cc nL s args Ts own A) {a b : Nat} (hdg : decode cc pc = .ok (.iand, 1)) (k : W p l e R s m args below meth c H locs cells slots Q (F0 m (pc + 1) ls (.int (nI (a &&& b)) :: rest))) : W p l e R s m args below meth c H locs cells slots Q (F0 m pc ls (.int (nI b) :: .int (nI a) :: rest)) := lv_iand E.1.1 E.1.2.1 hdg (by rw [nI_and]; exact k)
theorem q_or (E : qE g p m c cc nL s args Ts own A) {a b : Nat} (hdg : decode cc pc = .ok (.ior, 1)) (k : W p l e R s m args below meth c H locs cells slots Q (F0 m (pc + 1) ls (.int (nI (a ||| b)) :: rest))) : W p l e R s m args below meth c H locs cells slots Q (F0 m pc ls (.int (nI b) :: .int (nI a) :: rest)) := lv_ior E.1.1 E.1.2.1 hdg (by rw [nI_or]; exact k)
theorem q_xor (E : qE g p m c cc nL s args Ts own A) {x y : Int32} (hdg : decode cc pc = .ok (.ixor, 1)) (k : W p l e R s m args below meth c H locs cells slots Q (F0 m (pc + 1) ls (.int (x ^^^ y) :: rest))) : W p l e R s m args below meth c H locs cells slots Q (F0 m pc ls (.int y :: .int x :: rest)) := lv_ixor E.1.1 E.1.2.1 hdg k
theorem q_andn (E : qE g p m c cc nL s args Ts own A) {a b : Nat} (hdg : decode cc pc = .ok (.iand, 1)) (k : W p l e R s m args below meth c H locs cells slots Q (F0 m (pc + 1) ls (.int (nI (ldf a b)) :: rest))) : W p l e R s m args below meth c H locs cells slots Q (F0 m pc ls (.int (nI b ^^^ (-1)) :: .int (nI a) :: rest)) := lv_iand E.1.1 E.1.2.1 hdg (by rw [nI_ldf]; exact k)
theorem q_shl1 (E : qE g p m c cc nL s args Ts own A) {b : Nat} (h : b < 31) (hdg : decode cc pc = .ok (.ishl, 1)) (k : W p l e R s m args below meth c H locs cells slots Q (F0 m (pc + 1) ls (.int (nI (2 ^ b)) :: rest))) : W p l e R s m args below meth c H locs cells slots Q (F0 m pc ls (.int (nI b) :: .int (nI 1) :: rest)) := lv_ishl E.1.1 E.1.2.1 hdg (by rw [nI_shl1 h]; exact k)
theorem q_shr (E : qE g p m c cc nL s args Ts own A) {a b : Nat} (ha : a < 2 ^ 31) (h : b < 32) (hdg : decode cc pc = .ok (.ishr, 1)) (k : W p l e R s m args below meth c H locs cells slots Q (F0 m (pc + 1) ls (.int (nI (a / 2 ^ b)) :: rest))) : W p l e R s m args below meth c H locs cells slots Q (F0 m pc ls (.int (nI b) :: .int (nI a) :: rest)) := lv_ishr E.1.1 E.1.2.1 hdg (by rw [nI_shr ha h]; exact k)
theorem q_i2l (E : qE g p m c cc nL s args Ts own A) {x : Int32} (hdg : decode cc pc = .ok (.i2l, 1)) (k : W p l e R s m args below meth c H locs cells slots Q (F0 m (pc + 1) ls (.long x.toInt64 :: rest))) : W p l e R s m args below meth c H locs cells slots Q (F0 m pc ls (.int x :: rest)) := lv_i2l E.1.1 E.1.2.1 hdg rfl k
/-- another spelling of the top -/
theorem q_top {v w : Value} (h : v = w) (k : W p l e R s m args below meth c H locs cells slots Q (F0 m pc ls (w :: rest))) : W p l e R s m args below meth c H locs cells slots Q (F0 m pc ls (v :: rest)) := by rw [h]; exact k
-- ===== branches =====
theorem q_ge (E : qE g p m c cc nL s args Ts own A) {a b : Nat} {off : Int} {tgt : Nat} (ha : a < 2 ^ 31) (hb : b < 2 ^ 31) (hdg : decode cc pc = .ok (.if_icmp .ge off, 3)) (ht : (pc : Int) + off = (tgt : Int)) (kt : b ≤ a → W p l e R s m args below meth c H locs cells slots Q (F0 m tgt ls rest)) (kf : a < b → W p l e R s m args below meth c H locs cells slots Q (F0 m (pc + 3) ls rest)) : W p l e R s m args below meth c H locs cells slots Q (F0 m pc ls (.int (nI b) :: .int (nI a) :: rest)) := lv_icmp_ge E.1.1 E.1.2.1 hdg ht (fun h => kt ((nI_leI hb ha).mp h)) (fun h => kf (Nat.lt_of_not_le fun q => h ((nI_leI hb ha).mpr q)))
theorem q_lt (E : qE g p m c cc nL s args Ts own A) {a b : Nat} {off : Int} {tgt : Nat} (ha : a < 2 ^ 31) (hb : b < 2 ^ 31) (hdg : decode cc pc = .ok (.if_icmp .lt off, 3)) (ht : (pc : Int) + off = (tgt : Int)) (kt : a < b → W p l e R s m args below meth c H locs cells slots Q (F0 m tgt ls rest)) (kf : b ≤ a → W p l e R s m args below meth c H locs cells slots Q (F0 m (pc + 3) ls rest)) : W p l e R s m args below meth c H locs cells slots Q (F0 m pc ls (.int (nI b) :: .int (nI a) :: rest)) := lv_icmp_lt E.1.1 E.1.2.1 hdg ht (fun h => kt ((nI_ltI ha hb).mp h)) (fun h => kf (Nat.le_of_not_lt fun q => h ((nI_ltI ha hb).mpr q)))
theorem q_gt (E : qE g p m c cc nL s args Ts own A) {a b : Nat} {off : Int} {tgt : Nat} (ha : a < 2 ^ 31) (hb : b < 2 ^ 31) (hdg : decode cc pc = .ok (.if_icmp .gt off, 3)) (ht : (pc : Int) + off = (tgt : Int)) (kt : b < a → W p l e R s m args below meth c H locs cells slots Q (F0 m tgt ls rest)) (kf : a ≤ b → W p l e R s m args below meth c H locs cells slots Q (F0 m (pc + 3) ls rest)) : W p l e R s m args below meth c H locs cells slots Q (F0 m pc ls (.int (nI b) :: .int (nI a) :: rest)) := lv_icmp_gt E.1.1 E.1.2.1 hdg ht (fun h => kt ((nI_ltI hb ha).mp h)) (fun h => kf (Nat.le_of_not_lt fun q => h ((nI_ltI hb ha).mpr q)))
theorem q_le (E : qE g p m c cc nL s args Ts own A) {a b : Nat} {off : Int} {tgt : Nat} (ha : a < 2 ^ 31) (hb : b < 2 ^ 31) (hdg : decode cc pc = .ok (.if_icmp .le off, 3)) (ht : (pc : Int) + off = (tgt : Int)) (kt : a ≤ b → W p l e R s m args below meth c H locs cells slots Q (F0 m tgt ls rest)) (kf : b < a → W p l e R s m args below meth c H locs cells slots Q (F0 m (pc + 3) ls rest)) : W p l e R s m args below meth c H locs cells slots Q (F0 m pc ls (.int (nI b) :: .int (nI a) :: rest)) := lv_icmp_le E.1.1 E.1.2.1 hdg ht (fun h => kt ((nI_leI ha hb).mp h)) (fun h => kf (Nat.lt_of_not_le fun q => h ((nI_leI ha hb).mpr q)))
theorem q_eq (E : qE g p m c cc nL s args Ts own A) {a b : Nat} {off : Int} {tgt : Nat} (ha : a < 2 ^ 31) (hb : b < 2 ^ 31) (hdg : decode cc pc = .ok (.if_icmp .eq off, 3)) (ht : (pc : Int) + off = (tgt : Int)) (kt : a = b → W p l e R s m args below meth c H locs cells slots Q (F0 m tgt ls rest)) (kf : a ≠ b → W p l e R s m args below meth c H locs cells slots Q (F0 m (pc + 3) ls rest)) : W p l e R s m args below meth c H locs cells slots Q (F0 m pc ls (.int (nI b) :: .int (nI a) :: rest)) := lv_icmp_eq E.1.1 E.1.2.1 hdg ht (fun h => kt ((nI_eq ha hb).mp h)) (fun h => kf fun q => h ((nI_eq ha hb).mpr q))
theorem q_ne (E : qE g p m c cc nL s args Ts own A) {a b : Nat} {off : Int} {tgt : Nat} (ha : a < 2 ^ 31) (hb : b < 2 ^ 31) (hdg : decode cc pc = .ok (.if_icmp .ne off, 3)) (ht : (pc : Int) + off = (tgt : Int)) (kt : a ≠ b → W p l e R s m args below meth c H locs cells slots Q (F0 m tgt ls rest)) (kf : a = b → W p l e R s m args below meth c H locs cells slots Q (F0 m (pc + 3) ls rest)) : W p l e R s m args below meth c H locs cells slots Q (F0 m pc ls (.int (nI b) :: .int (nI a) :: rest)) := lv_icmp_ne E.1.1 E.1.2.1 hdg ht (fun h => kt fun q => h ((nI_eq ha hb).mpr q)) (fun h => kf ((nI_eq ha hb).mp h))
theorem q_eq0 (E : qE g p m c cc nL s args Ts own A) {a : Nat} {off : Int} {tgt : Nat} (ha : a < 2 ^ 31) (hdg : decode cc pc = .ok (.ifCond .eq off, 3)) (ht : (pc : Int) + off = (tgt : Int)) (kt : a = 0 → W p l e R s m args below meth c H locs cells slots Q (F0 m tgt ls rest)) (kf : a ≠ 0 → W p l e R s m args below meth c H locs cells slots Q (F0 m (pc + 3) ls rest)) : W p l e R s m args below meth c H locs cells slots Q (F0 m pc ls (.int (nI a) :: rest)) := lv_if_eq E.1.1 E.1.2.1 hdg ht (fun h => kt ((nI_eq ha (by decide)).mp (h.trans nI_0.symm))) (fun h => kf fun q => h (by rw [q]; exact nI_0))
theorem q_ne0 (E : qE g p m c cc nL s args Ts own A) {a : Nat} {off : Int} {tgt : Nat} (ha : a < 2 ^ 31) (hdg : decode cc pc = .ok (.ifCond .ne off, 3)) (ht : (pc : Int) + off = (tgt : Int)) (kt : a ≠ 0 → W p l e R s m args below meth c H locs cells slots Q (F0 m tgt ls rest)) (kf : a = 0 → W p l e R s m args below meth c H locs cells slots Q (F0 m (pc + 3) ls rest)) : W p l e R s m args below meth c H locs cells slots Q (F0 m pc ls (.int (nI a) :: rest)) := lv_if_ne E.1.1 E.1.2.1 hdg ht (fun h => kt fun q => h (by rw [q]; exact nI_0)) (fun h => kf ((nI_eq ha (by decide)).mp (h.trans nI_0.symm)))
theorem q_beq (E : qE g p m c cc nL s args Ts own A) {b : Bool} {off : Int} {tgt : Nat} (hdg : decode cc pc = .ok (.ifCond .eq off, 3)) (ht : (pc : Int) + off = (tgt : Int)) (kt : b = false → W p l e R s m args below meth c H locs cells slots Q (F0 m tgt ls rest)) (kf : b = true → W p l e R s m args below meth c H locs cells slots Q (F0 m (pc + 3) ls rest)) : W p l e R s m args below meth c H locs cells slots Q (F0 m pc ls (.int (nI b.toNat) :: rest)) := lv_if_eq E.1.1 E.1.2.1 hdg ht (fun h => kt (b_n0.mp h)) (fun h => kf (b_n1.mp h))
theorem q_bne (E : qE g p m c cc nL s args Ts own A) {b : Bool} {off : Int} {tgt : Nat} (hdg : decode cc pc = .ok (.ifCond .ne off, 3)) (ht : (pc : Int) + off = (tgt : Int)) (kt : b = true → W p l e R s m args below meth c H locs cells slots Q (F0 m tgt ls rest)) (kf : b = false → W p l e R s m args below meth c H locs cells slots Q (F0 m (pc + 3) ls rest)) : W p l e R s m args below meth c H locs cells slots Q (F0 m pc ls (.int (nI b.toNat) :: rest)) := lv_if_ne E.1.1 E.1.2.1 hdg ht (fun h => kt (b_n1.mp h)) (fun h => kf (b_n0.mp h))
theorem q_lt0 (E : qE g p m c cc nL s args Ts own A) {a : Nat} {off : Int} (ha : a < 2 ^ 31) (hdg : decode cc pc = .ok (.ifCond .lt off, 3)) {tgt : Nat} (ht : (pc : Int) + off = (tgt : Int)) (kf : W p l e R s m args below meth c H locs cells slots Q (F0 m (pc + 3) ls rest)) : W p l e R s m args below meth c H locs cells slots Q (F0 m pc ls (.int (nI a) :: rest)) := lv_if_lt E.1.1 E.1.2.1 hdg ht (fun h => absurd h (nI_pos ha)) (fun _ => kf)
theorem q_go (E : qE g p m c cc nL s args Ts own A) {off : Int} {tgt : Nat} (hdg : decode cc pc = .ok (.goto off, 3)) (ht : (pc : Int) + off = (tgt : Int)) (k : W p l e R s m args below meth c H locs cells slots Q (F0 m tgt ls rest)) : W p l e R s m args below meth c H locs cells slots Q (F0 m pc ls rest) := lv_goto E.1.1 E.1.2.1 hdg ht k
-- ===== fields, arrays =====
theorem q_get (E : qE g p m c cc nL s args Ts own A) (h : qH g A s ws H locs) {C : String} {T : u_T} {N : Nat} (ci : Nat) (hc : vwCl[ci]? = some (C, T, N)) (hin : ∀ w ∈ u_ws C T N, w ∈ Ts) (q0 : Nat) {a : Nat} {fs : List Value} (he : ws[q0]? = some (a, .inr (ci, fs))) (k : Nat) (hk : k < N) {index : Nat} (hl : (Cond.fieldLink own index (T k).1 (T k).2.1 (T k).2.2.1).before args s = true) {v : Value} (hv : fs[k]? = some v) (hdg : decode cc pc = .ok (.getfield index, 3))
    (kk : W p l e R s m args below meth c H locs cells slots Q (F0 m (pc + 3) ls (v :: rest))) : W p l e R s m args below meth c H locs cells slots Q (F0 m pc ls (.ref a :: rest)) :=
  va_get (D := g.1) E.1.1 E.1.2.1 E.1.2.2.2.2 hin E.1.2.2.2.1 E.2.1.1 h.1 q0 he hc k hk hl (fun _ h9 => h9) hv hdg kk
theorem q_put (E : qE g p m c cc nL s args Ts own A) (h : qH g A s ws H locs) {C : String} {T : u_T} {N : Nat} (ci : Nat) (hc : vwCl[ci]? = some (C, T, N)) (ty0 : Nat → FieldType) (hty : ∀ k, k < N → parseFieldDescriptor (T k).2.2.1 = some (ty0 k)) (hnm : ∀ a, a < N → ∀ b, b < N → a ≠ b → (T a).2.1 ≠ (T b).2.1) (hin : ∀ w ∈ u_ws C T N, w ∈ Ts) (q0 : Nat) {a : Nat} {fs : List Value} (he : ws[q0]? = some (a, .inr (ci, fs))) (k : Nat) (hk : k < N) {index : Nat} (hl : (Cond.fieldLink own index (T k).1 (T k).2.1 (T k).2.2.1).before args s = true) (hfin : (T k).2.2.2 = false) {ty : FieldType} {v : Value} (hd : parseFieldDescriptor (T k).2.2.1 = some ty) (hn : narrow ty v = v) (hfit : fits ty v = true) (hlen : k < fs.length) (hdg : decode cc pc = .ok (.putfield index, 3))
    {w2 : va_W} (h2 : ws.set q0 (a, .inr (ci, fs.set k v)) = w2) (kk : ∀ (H1 : Heap) (locs1 : List Loc), qH g A s w2 H1 locs1 → W p l e R s m args below meth c H1 locs1 cells slots Q (F0 m (pc + 3) ls rest)) : W p l e R s m args below meth c H locs cells slots Q (F0 m pc ls (v :: .ref a :: rest)) :=
  va_put (D := g.1) E.1.1 E.1.2.1 E.1.2.2.2.2 hin ty0 hty hnm E.1.2.2.2.1 E.2.1.1 h.1 h.2.1 h.2.2 q0 he hc k hk hl (fun _ h9 => h9) hfin hd hn hfit hlen hdg (fun H1 locs1 a1 a2 a3 => kk H1 locs1 ⟨h2 ▸ a1, h2 ▸ a2, a3⟩)
theorem q_putF (E : qE g p m c cc nL s args Ts own A) (hmn : meth.name = "<init>") (h : qH g A s ws H locs) {C : String} {T : u_T} {N : Nat} (ci : Nat) (hc : vwCl[ci]? = some (C, T, N)) (ty0 : Nat → FieldType) (hty : ∀ k, k < N → parseFieldDescriptor (T k).2.2.1 = some (ty0 k)) (hnm : ∀ a, a < N → ∀ b, b < N → a ≠ b → (T a).2.1 ≠ (T b).2.1) (hin : ∀ w ∈ u_ws C T N, w ∈ Ts) (q0 : Nat) {a : Nat} {fs : List Value} (he : ws[q0]? = some (a, .inr (ci, fs))) (k : Nat) (hk : k < N) {index : Nat} (hl : (Cond.fieldLink own index (T k).1 (T k).2.1 (T k).2.2.1).before args s = true) (hfin : (T k).2.2.2 = true) (hdecl : (T k).1 = own) {ty : FieldType} {v : Value} (hd : parseFieldDescriptor (T k).2.2.1 = some ty) (hn : narrow ty v = v) (hfit : fits ty v = true) (hlen : k < fs.length) (hdg : decode cc pc = .ok (.putfield index, 3))
    {w2 : va_W} (h2 : ws.set q0 (a, .inr (ci, fs.set k v)) = w2) (kk : ∀ (H1 : Heap) (locs1 : List Loc), qH g A s w2 H1 locs1 → W p l e R s m args below meth c H1 locs1 cells slots Q (F0 m (pc + 3) ls rest)) : W p l e R s m args below meth c H locs cells slots Q (F0 m pc ls (v :: .ref a :: rest)) :=
  va_putF (D := g.1) E.1.1 E.1.2.1 E.1.2.2.2.2 hin ty0 hty hnm E.1.2.2.2.1 E.2.1.1 h.1 h.2.1 h.2.2 q0 he hc k hk hl (fun _ h9 => h9) hfin hmn hdecl hd hn hfit hlen hdg (fun H1 locs1 a1 a2 a3 => kk H1 locs1 ⟨h2 ▸ a1, h2 ▸ a2, a3⟩)
theorem q_iald (E : qE g p m c cc nL s args Ts own A) (h : qH g A s ws H locs) (q0 : Nat) {a n i : Nat} {f : Nat → Nat} (ha : ws[q0]? = some (a, .inl (gI g, n, .inl (aN f)))) (hi : i < n) (hn : n < 2 ^ 31) (hdg : decode cc pc = .ok (.iaload, 1)) (kk : W p l e R s m args below meth c H locs cells slots Q (F0 m (pc + 1) ls (.int (nI (f i)) :: rest))) : W p l e R s m args below meth c H locs cells slots Q (F0 m pc ls (.int (nI i) :: .ref a :: rest)) :=
  va_iald (D := g.1) E.1.1 E.1.2.1 E.2.1.1 h.1 q0 0 ha rfl (vp_in_nI hi hn) hdg (by rw [nI_clamp (Nat.lt_trans hi hn)]; exact kk)
theorem q_iast (E : qE g p m c cc nL s args Ts own A) (h : qH g A s ws H locs) (q0 : Nat) {a n i x : Nat} {f : Nat → Nat} (ha : ws[q0]? = some (a, .inl (gI g, n, .inl (aN f)))) (hi : i < n) (hn : n < 2 ^ 31) (hdg : decode cc pc = .ok (.iastore, 1)) {w2 : va_W} (h2 : ws.set q0 (a, .inl (gI g, n, .inl (aN (updN f i x)))) = w2) (kk : ∀ (H1 : Heap) (locs1 : List Loc), qH g A s w2 H1 locs1 → W p l e R s m args below meth c H1 locs1 cells slots Q (F0 m (pc + 1) ls rest)) : W p l e R s m args below meth c H locs cells slots Q (F0 m pc ls (.int (nI x) :: .int (nI i) :: .ref a :: rest)) :=
  va_iast (D := g.1) E.1.1 E.1.2.1 E.2.1.1 h.1 h.2.1 h.2.2 q0 0 ha rfl (vp_in_nI hi hn) hdg (fun H1 locs1 a1 a2 a3 => by
    rw [nI_clamp (Nat.lt_trans hi hn), upd_aN, h2] at a1 a2
    exact kk H1 locs1 ⟨a1, a2, a3⟩)
theorem q_alen (E : qE g p m c cc nL s args Ts own A) (h : qH g A s ws H locs) (q0 : Nat) {a n : Nat} {f : Nat → Int32} (ha : ws[q0]? = some (a, .inl (gI g, n, .inl f))) (hdg : decode cc pc = .ok (.arraylength, 1)) (kk : W p l e R s m args below meth c H locs cells slots Q (F0 m (pc + 1) ls (.int (nI n) :: rest))) : W p l e R s m args below meth c H locs cells slots Q (F0 m pc ls (.ref a :: rest)) :=
  va_alen (D := g.1) E.1.1 E.1.2.1 E.2.1.1 h.1 q0 0 ha rfl rfl hdg kk
-- ===== calls =====
theorem q_preS (E : qE g p m c cc nL s args Ts own A) (h : qH g A s ws H locs) {wc : va_W} {As : List Value} (isC : List Nat) (hnC : va_nd isC = true) (hC : isC.map (fun i => ws[i]?) = wc.map some) : PreS s H (va_Pc As (gP g wc H.size)) As :=
  ⟨gP_blind, fun U hU hW => ⟨rfl, by rw [hU], by rw [hU]; exact (h.perm isC hnC hC).1, gK_warm hW E.2.1, ((h.perm isC hnC hC).2.1).weaken (fun _ _ _ _ => trivial)⟩⟩
theorem q_preV (E : qE g p m c cc nL s args Ts own A) (h : qH g A s ws H locs) {wc : va_W} {b : Nat} {As : List Value} (isC : List Nat) (hnC : va_nd isC = true) (hC : isC.map (fun i => ws[i]?) = wc.map some) {C : String} {T : u_T} {N : Nat} (ci : Nat) (hc : vwCl[ci]? = some (C, T, N)) (q0 : Nat) {fs : List Value} (he : ws[q0]? = some (b, .inr (ci, fs))) : PreV s H C b (va_Pc (.ref b :: As) (gP g wc H.size)) As :=
  ⟨gP_blind, va_recv E.2.1.1 h.1 hc he, (q_preS (As := .ref b :: As) E h isC hnC hC).2⟩
theorem q_free (h : qH g A s ws H locs) (hA : ∀ q, s.heap.size ≤ q → A q) {wc : va_W} (isC : List Nat) (hC : isC.map (fun i => ws[i]?) = wc.map some) : ∀ q, va_A wc H.size q → A q := va_free h.2.1 h.2.2 hA isC hC
variable {st0 : List Value} {a : Array Value} {wc wr : va_W}
theorem q_ki {S : Type} {post : Int32 → S → Prop} {w1 w2 : S → va_W} (E : qE g p m c cc nL s args Ts own A) (h : qH g A s ws H locs) (isC isR is : List Nat) (hr : va_Run p l e R s m args below meth c H locs cells slots 0 0 (F0 m pc ls st0) rest (va_Qi post (fun u t => gB g wc H.size (w1 u) t) (va_A wc H.size) a) (va_A wc H.size))
    (hC : isC.map (fun i => ws[i]?) = wc.map some) (hR : isR.map (fun i => ws[i]?) = wr.map some) (hnR : va_nd isR = true) (hdis : ∀ i ∈ isR, i ∉ isC) (hn2 : va_nd is = true) (h2 : ∀ u, is.map (fun i => (wr ++ w1 u)[i]?) = (w2 u).map some)
    (kk : ∀ (r : Int32) (u : S) (H1 : Heap) (locs1 : List Loc), post r u → qH g A s (w2 u) H1 locs1 → W p l e R s m args below meth c H1 locs1 cells slots Q (F0 m (pc + 3) ls (.int r :: rest))) : W p l e R s m args below meth c H locs cells slots Q (F0 m pc ls st0) := by
  have hF := q_free h E.2.2 isC hC
  refine va_calli hr h.2.2 (fun q _ z => hF q z) hF (fun r u t H1 locs1 ht hvm hw hB hz1 hk1 hS => ?_)
  obtain ⟨hP1, hD1⟩ := hB
  rw [ht] at hP1
  obtain ⟨hP, hD⟩ := va_join h.1 h.2.1 isC isR hC hR hnR hdis hk1 hF hP1 hD1
  exact kk r u H1 locs1 hw (qH.perm ⟨hP, hD, hS⟩ is hn2 (h2 u))
theorem q_kl {S : Type} {post : Int64 → S → Prop} {w1 w2 : S → va_W} (E : qE g p m c cc nL s args Ts own A) (h : qH g A s ws H locs) (isC isR is : List Nat) (hr : va_Run p l e R s m args below meth c H locs cells slots 0 0 (F0 m pc ls st0) rest (va_Ql post (fun u t => gB g wc H.size (w1 u) t) (va_A wc H.size) a) (va_A wc H.size))
    (hC : isC.map (fun i => ws[i]?) = wc.map some) (hR : isR.map (fun i => ws[i]?) = wr.map some) (hnR : va_nd isR = true) (hdis : ∀ i ∈ isR, i ∉ isC) (hn2 : va_nd is = true) (h2 : ∀ u, is.map (fun i => (wr ++ w1 u)[i]?) = (w2 u).map some)
    (kk : ∀ (r : Int64) (u : S) (H1 : Heap) (locs1 : List Loc), post r u → qH g A s (w2 u) H1 locs1 → W p l e R s m args below meth c H1 locs1 cells slots Q (F0 m (pc + 3) ls (.long r :: rest))) : W p l e R s m args below meth c H locs cells slots Q (F0 m pc ls st0) := by
  have hF := q_free h E.2.2 isC hC
  refine va_calll hr h.2.2 (fun q _ z => hF q z) hF (fun r u t H1 locs1 ht hvm hw hB hz1 hk1 hS => ?_)
  obtain ⟨hP1, hD1⟩ := hB
  rw [ht] at hP1
  obtain ⟨hP, hD⟩ := va_join h.1 h.2.1 isC isR hC hR hnR hdis hk1 hF hP1 hD1
  exact kk r u H1 locs1 hw (qH.perm ⟨hP, hD, hS⟩ is hn2 (h2 u))
theorem q_kd {S : Type} {post : UInt64 → S → Prop} {w1 w2 : S → va_W} (E : qE g p m c cc nL s args Ts own A) (h : qH g A s ws H locs) (isC isR is : List Nat) (hr : va_Run p l e R s m args below meth c H locs cells slots 0 0 (F0 m pc ls st0) rest (va_Qd post (fun u t => gB g wc H.size (w1 u) t) (va_A wc H.size) a) (va_A wc H.size))
    (hC : isC.map (fun i => ws[i]?) = wc.map some) (hR : isR.map (fun i => ws[i]?) = wr.map some) (hnR : va_nd isR = true) (hdis : ∀ i ∈ isR, i ∉ isC) (hn2 : va_nd is = true) (h2 : ∀ u, is.map (fun i => (wr ++ w1 u)[i]?) = (w2 u).map some)
    (kk : ∀ (r : UInt64) (u : S) (H1 : Heap) (locs1 : List Loc), post r u → qH g A s (w2 u) H1 locs1 → W p l e R s m args below meth c H1 locs1 cells slots Q (F0 m (pc + 3) ls (.double r :: rest))) : W p l e R s m args below meth c H locs cells slots Q (F0 m pc ls st0) := by
  have hF := q_free h E.2.2 isC hC
  refine va_calld hr h.2.2 (fun q _ z => hF q z) hF (fun r u t H1 locs1 ht hvm hw hB hz1 hk1 hS => ?_)
  obtain ⟨hP1, hD1⟩ := hB
  rw [ht] at hP1
  obtain ⟨hP, hD⟩ := va_join h.1 h.2.1 isC isR hC hR hnR hdis hk1 hF hP1 hD1
  exact kk r u H1 locs1 hw (qH.perm ⟨hP, hD, hS⟩ is hn2 (h2 u))
theorem q_kv {S : Type} {post : S → Prop} {w1 w2 : S → va_W} (E : qE g p m c cc nL s args Ts own A) (h : qH g A s ws H locs) (isC isR is : List Nat) (hr : va_Run p l e R s m args below meth c H locs cells slots 0 0 (F0 m pc ls st0) rest (va_Qv post (fun u t => gB g wc H.size (w1 u) t) (va_A wc H.size) a) (va_A wc H.size))
    (hC : isC.map (fun i => ws[i]?) = wc.map some) (hR : isR.map (fun i => ws[i]?) = wr.map some) (hnR : va_nd isR = true) (hdis : ∀ i ∈ isR, i ∉ isC) (hn2 : va_nd is = true) (h2 : ∀ u, is.map (fun i => (wr ++ w1 u)[i]?) = (w2 u).map some)
    (kk : ∀ (u : S) (H1 : Heap) (locs1 : List Loc), post u → qH g A s (w2 u) H1 locs1 → W p l e R s m args below meth c H1 locs1 cells slots Q (F0 m (pc + 3) ls rest)) : W p l e R s m args below meth c H locs cells slots Q (F0 m pc ls st0) := by
  have hF := q_free h E.2.2 isC hC
  refine va_callv hr h.2.2 (fun q _ z => hF q z) hF (fun u t H1 locs1 ht hvm hw hB hz1 hk1 hS => ?_)
  obtain ⟨hP1, hD1⟩ := hB
  rw [ht] at hP1
  obtain ⟨hP, hD⟩ := va_join h.1 h.2.1 isC isR hC hR hnR hdis hk1 hF hP1 hD1
  exact kk u H1 locs1 hw (qH.perm ⟨hP, hD, hS⟩ is hn2 (h2 u))
/-- an answer that is a known cell -/
theorem q_kr {S : Type} {post : S → Prop} {w1 w2 : S → va_W} {ad : S → Nat} (E : qE g p m c cc nL s args Ts own A) (h : qH g A s ws H locs) (isC isR is : List Nat) (hr : va_Run p l e R s m args below meth c H locs cells slots 0 0 (F0 m pc ls st0) rest (va_Qr post (fun u b t => b = ad u ∧ gB g wc H.size (w1 u) t) (va_A wc H.size) a) (va_A wc H.size))
    (hC : isC.map (fun i => ws[i]?) = wc.map some) (hR : isR.map (fun i => ws[i]?) = wr.map some) (hnR : va_nd isR = true) (hdis : ∀ i ∈ isR, i ∉ isC) (hn2 : va_nd is = true) (h2 : ∀ u, is.map (fun i => (wr ++ w1 u)[i]?) = (w2 u).map some)
    (kk : ∀ (u : S) (H1 : Heap) (locs1 : List Loc), post u → qH g A s (w2 u) H1 locs1 → W p l e R s m args below meth c H1 locs1 cells slots Q (F0 m (pc + 3) ls (.ref (ad u) :: rest))) : W p l e R s m args below meth c H locs cells slots Q (F0 m pc ls st0) := by
  have hF := q_free h E.2.2 isC hC
  refine va_callr hr h.2.2 (fun q _ z => hF q z) hF (fun u b t H1 locs1 ht hvm hw hB hz1 hk1 hS => ?_)
  obtain ⟨rfl, hP1, hD1⟩ := hB
  rw [ht] at hP1
  obtain ⟨hP, hD⟩ := va_join h.1 h.2.1 isC isR hC hR hnR hdis hk1 hF hP1 hD1
  exact kk u H1 locs1 hw (qH.perm ⟨hP, hD, hS⟩ is hn2 (h2 u))
end QK
-- ===== contracts: a method that answers an int, a long, a double, nothing, a cell =====
def CI {S : Type} (l : Launch) (g : GK) (y : MethodName) (ws : List Cond) (rm : Room) (As : List Value) (w0 : va_W) (post : Int32 → S → Prop) (w1 : S → va_W) : Prop := ∀ sz : Nat, Met l y ws rm (va_Pc As (gP g w0 sz)) (va_Qi post (fun u t => gB g w0 sz (w1 u) t) (va_A w0 sz)) 0 0 (va_A w0 sz)
def CL {S : Type} (l : Launch) (g : GK) (y : MethodName) (ws : List Cond) (rm : Room) (As : List Value) (w0 : va_W) (post : Int64 → S → Prop) (w1 : S → va_W) : Prop := ∀ sz : Nat, Met l y ws rm (va_Pc As (gP g w0 sz)) (va_Ql post (fun u t => gB g w0 sz (w1 u) t) (va_A w0 sz)) 0 0 (va_A w0 sz)
def CD {S : Type} (l : Launch) (g : GK) (y : MethodName) (ws : List Cond) (rm : Room) (As : List Value) (w0 : va_W) (post : UInt64 → S → Prop) (w1 : S → va_W) : Prop := ∀ sz : Nat, Met l y ws rm (va_Pc As (gP g w0 sz)) (va_Qd post (fun u t => gB g w0 sz (w1 u) t) (va_A w0 sz)) 0 0 (va_A w0 sz)
def CV {S : Type} (l : Launch) (g : GK) (y : MethodName) (ws : List Cond) (rm : Room) (As : List Value) (w0 : va_W) (post : S → Prop) (w1 : S → va_W) : Prop := ∀ sz : Nat, Met l y ws rm (va_Pc As (gP g w0 sz)) (va_Qv post (fun u t => gB g w0 sz (w1 u) t) (va_A w0 sz)) 0 0 (va_A w0 sz)
def CR {S : Type} (l : Launch) (g : GK) (y : MethodName) (ws : List Cond) (rm : Room) (As : List Value) (w0 : va_W) (post : S → Prop) (ad : S → Nat) (w1 : S → va_W) : Prop := ∀ sz : Nat, Met l y ws rm (va_Pc As (gP g w0 sz)) (va_Qr post (fun u b t => b = ad u ∧ gB g w0 sz (w1 u) t) (va_A w0 sz)) 0 0 (va_A w0 sz)
theorem n_int {S : Type} {post : Int32 → S → Prop} : ∀ v u, post v u → narrow .int (.int v) = .int v := fun _ _ _ => rfl
theorem n_bool (b : Bool) : narrow .boolean (.int (nI b.toNat)) = .int (nI b.toNat) := by cases b <;> rfl
theorem q_ofI {S : Type} {l : Launch} {g : GK} {y : MethodName} {ws ws' : List Cond} {rm : Room} {cc : ByteArray} {maxL : Nat} {rt : FieldType} {As : List Value} {w0 : va_W} {post : Int32 → S → Prop} {w1 : S → va_W} {own : String} (hy : plainName y.cls = true) (hw : ws = Cond.code y cc maxL (some rt) :: ws') (ho : y.cls = own) (hlen : (lg_sl As).length ≤ maxL) (hn : ∀ v u, post v u → narrow rt (.int v) = .int v)
    (body : ∀ (p : Program) (e : Env) (s : State) (m : MethodId) (below : List Frame) (meth : Method) (c : Code) (A : Nat → Prop) (Q : State → Prop) (args : Array Value), qE g p m c cc maxL s args ws own A → meth.name = y.name → qH g A s w0 s.heap [] →
      (∀ (H : Heap) (locs : List Loc) (pc : Nat) (ls : Array Slot) (v : Int32) (u : S), qH g A s (w1 u) H locs → decode cc pc = .ok (.ireturn, 1) → post v u → W p l e rm s m args below meth c H locs 0 0 Q (F0 m pc ls [.int v])) →
      ∀ ls : Array Slot, lv_has ls maxL (lv_args 0 As) → W p l e rm s m args below meth c s.heap [] 0 0 Q (F0 m 0 ls [])) : CI l g y ws rm As w0 post w1 := by
  subst ho
  intro sz
  refine Met.ofW hy hw ?_
  intro p e s m args below meth c s₁ B hml hv
  obtain ⟨rfl, hsz, hP, hK, hD0⟩ := hv
  subst hsz
  rw [lg_entry_eq]
  refine body p e s m below meth c (va_A w0 s.heap.size) _ _ ⟨⟨B.exec, B.bytes, hml, findClass_of_methodNamed B.named, atoms_spec (ws := ws) B.pre⟩, hK, fun q h => Or.inr h⟩ (name_of_methodNamed B.named B.method).1 ⟨hP, hD0.self, va_S.rf⟩ ?_ _ (lv_entry As hlen)
  intro H locs pc ls v u h hd hp
  exact W.zret B.exec B.bytes B.returns (hn v u hp) (fun t ht hW => ⟨⟨v, u, rfl, hp, by rw [ht]; exact h.1, h.2.1⟩, h.2.2.F ht⟩) h.2.2.2.2 hd B.notSynchronized
theorem q_ofL {S : Type} {l : Launch} {g : GK} {y : MethodName} {ws ws' : List Cond} {rm : Room} {cc : ByteArray} {maxL : Nat} {As : List Value} {w0 : va_W} {post : Int64 → S → Prop} {w1 : S → va_W} {own : String} (hy : plainName y.cls = true) (hw : ws = Cond.code y cc maxL (some .long) :: ws') (ho : y.cls = own) (hlen : (lg_sl As).length ≤ maxL)
    (body : ∀ (p : Program) (e : Env) (s : State) (m : MethodId) (below : List Frame) (meth : Method) (c : Code) (A : Nat → Prop) (Q : State → Prop) (args : Array Value), qE g p m c cc maxL s args ws own A → meth.name = y.name → qH g A s w0 s.heap [] →
      (∀ (H : Heap) (locs : List Loc) (pc : Nat) (ls : Array Slot) (v : Int64) (u : S), qH g A s (w1 u) H locs → decode cc pc = .ok (.lreturn, 1) → post v u → W p l e rm s m args below meth c H locs 0 0 Q (F0 m pc ls [.long v])) →
      ∀ ls : Array Slot, lv_has ls maxL (lv_args 0 As) → W p l e rm s m args below meth c s.heap [] 0 0 Q (F0 m 0 ls [])) : CL l g y ws rm As w0 post w1 := by
  subst ho
  intro sz
  refine Met.ofW hy hw ?_
  intro p e s m args below meth c s₁ B hml hv
  obtain ⟨rfl, hsz, hP, hK, hD0⟩ := hv
  subst hsz
  rw [lg_entry_eq]
  refine body p e s m below meth c (va_A w0 s.heap.size) _ _ ⟨⟨B.exec, B.bytes, hml, findClass_of_methodNamed B.named, atoms_spec (ws := ws) B.pre⟩, hK, fun q h => Or.inr h⟩ (name_of_methodNamed B.named B.method).1 ⟨hP, hD0.self, va_S.rf⟩ ?_ _ (lv_entry As hlen)
  intro H locs pc ls v u h hd hp
  exact W.lret B.exec B.bytes B.returns (fun t ht hW => ⟨⟨v, u, rfl, hp, by rw [ht]; exact h.1, h.2.1⟩, h.2.2.F ht⟩) h.2.2.2.2 hd B.notSynchronized
theorem q_ofD {S : Type} {l : Launch} {g : GK} {y : MethodName} {ws ws' : List Cond} {rm : Room} {cc : ByteArray} {maxL : Nat} {As : List Value} {w0 : va_W} {post : UInt64 → S → Prop} {w1 : S → va_W} {own : String} (hy : plainName y.cls = true) (hw : ws = Cond.code y cc maxL (some .double) :: ws') (ho : y.cls = own) (hlen : (lg_sl As).length ≤ maxL)
    (body : ∀ (p : Program) (e : Env) (s : State) (m : MethodId) (below : List Frame) (meth : Method) (c : Code) (A : Nat → Prop) (Q : State → Prop) (args : Array Value), qE g p m c cc maxL s args ws own A → meth.name = y.name → qH g A s w0 s.heap [] →
      (∀ (H : Heap) (locs : List Loc) (pc : Nat) (ls : Array Slot) (v : UInt64) (u : S), qH g A s (w1 u) H locs → decode cc pc = .ok (.dreturn, 1) → post v u → W p l e rm s m args below meth c H locs 0 0 Q (F0 m pc ls [.double v])) →
      ∀ ls : Array Slot, lv_has ls maxL (lv_args 0 As) → W p l e rm s m args below meth c s.heap [] 0 0 Q (F0 m 0 ls [])) : CD l g y ws rm As w0 post w1 := by
  subst ho
  intro sz
  refine Met.ofW hy hw ?_
  intro p e s m args below meth c s₁ B hml hv
  obtain ⟨rfl, hsz, hP, hK, hD0⟩ := hv
  subst hsz
  rw [lg_entry_eq]
  refine body p e s m below meth c (va_A w0 s.heap.size) _ _ ⟨⟨B.exec, B.bytes, hml, findClass_of_methodNamed B.named, atoms_spec (ws := ws) B.pre⟩, hK, fun q h => Or.inr h⟩ (name_of_methodNamed B.named B.method).1 ⟨hP, hD0.self, va_S.rf⟩ ?_ _ (lv_entry As hlen)
  intro H locs pc ls v u h hd hp
  exact W.dret B.exec B.bytes B.returns (fun t ht hW => ⟨⟨v, u, rfl, hp, by rw [ht]; exact h.1, h.2.1⟩, h.2.2.F ht⟩) h.2.2.2.2 hd B.notSynchronized
theorem q_ofV {S : Type} {l : Launch} {g : GK} {y : MethodName} {ws ws' : List Cond} {rm : Room} {cc : ByteArray} {maxL : Nat} {As : List Value} {w0 : va_W} {post : S → Prop} {w1 : S → va_W} {own : String} (hy : plainName y.cls = true) (hw : ws = Cond.code y cc maxL none :: ws') (ho : y.cls = own) (hlen : (lg_sl As).length ≤ maxL)
    (body : ∀ (p : Program) (e : Env) (s : State) (m : MethodId) (below : List Frame) (meth : Method) (c : Code) (A : Nat → Prop) (Q : State → Prop) (args : Array Value), qE g p m c cc maxL s args ws own A → meth.name = y.name → qH g A s w0 s.heap [] →
      (∀ (H : Heap) (locs : List Loc) (pc : Nat) (ls : Array Slot) (u : S), qH g A s (w1 u) H locs → decode cc pc = .ok (.return_, 1) → post u → W p l e rm s m args below meth c H locs 0 0 Q (F0 m pc ls [])) →
      ∀ ls : Array Slot, lv_has ls maxL (lv_args 0 As) → W p l e rm s m args below meth c s.heap [] 0 0 Q (F0 m 0 ls [])) : CV l g y ws rm As w0 post w1 := by
  subst ho
  intro sz
  refine Met.ofW hy hw ?_
  intro p e s m args below meth c s₁ B hml hv
  obtain ⟨rfl, hsz, hP, hK, hD0⟩ := hv
  subst hsz
  rw [lg_entry_eq]
  refine body p e s m below meth c (va_A w0 s.heap.size) _ _ ⟨⟨B.exec, B.bytes, hml, findClass_of_methodNamed B.named, atoms_spec (ws := ws) B.pre⟩, hK, fun q h => Or.inr h⟩ (name_of_methodNamed B.named B.method).1 ⟨hP, hD0.self, va_S.rf⟩ ?_ _ (lv_entry As hlen)
  intro H locs pc ls u h hd hp
  exact W.vret B.exec B.bytes B.returns (fun t ht hW => ⟨⟨u, rfl, hp, by rw [ht]; exact h.1, h.2.1⟩, h.2.2.F ht⟩) h.2.2.2.2 hd B.notSynchronized
theorem q_ofR {S : Type} {l : Launch} {g : GK} {y : MethodName} {ws ws' : List Cond} {rm : Room} {cc : ByteArray} {maxL : Nat} {rt : FieldType} {As : List Value} {w0 : va_W} {post : S → Prop} {ad : S → Nat} {w1 : S → va_W} {own : String} (hy : plainName y.cls = true) (hw : ws = Cond.code y cc maxL (some rt) :: ws') (hrt : ∃ n, rt = .object n) (ho : y.cls = own) (hlen : (lg_sl As).length ≤ maxL)
    (body : ∀ (p : Program) (e : Env) (s : State) (m : MethodId) (below : List Frame) (meth : Method) (c : Code) (A : Nat → Prop) (Q : State → Prop) (args : Array Value), qE g p m c cc maxL s args ws own A → meth.name = y.name → qH g A s w0 s.heap [] →
      (∀ (H : Heap) (locs : List Loc) (pc : Nat) (ls : Array Slot) (u : S), qH g A s (w1 u) H locs → decode cc pc = .ok (.areturn, 1) → post u → W p l e rm s m args below meth c H locs 0 0 Q (F0 m pc ls [.ref (ad u)])) →
      ∀ ls : Array Slot, lv_has ls maxL (lv_args 0 As) → W p l e rm s m args below meth c s.heap [] 0 0 Q (F0 m 0 ls [])) : CR l g y ws rm As w0 post ad w1 := by
  subst ho
  intro sz
  refine Met.ofW hy hw ?_
  intro p e s m args below meth c s₁ B hml hv
  obtain ⟨rfl, hsz, hP, hK, hD0⟩ := hv
  subst hsz
  rw [lg_entry_eq]
  refine body p e s m below meth c (va_A w0 s.heap.size) _ _ ⟨⟨B.exec, B.bytes, hml, findClass_of_methodNamed B.named, atoms_spec (ws := ws) B.pre⟩, hK, fun q h => Or.inr h⟩ (name_of_methodNamed B.named B.method).1 ⟨hP, hD0.self, va_S.rf⟩ ?_ _ (lv_entry As hlen)
  intro H locs pc ls u h hd hp
  exact W.aret B.exec B.bytes B.returns (Or.inl hrt) (Or.inr ⟨_, rfl⟩) (fun t ht hW => ⟨⟨u, ad u, rfl, hp, rfl, by rw [ht]; exact h.1, h.2.1⟩, h.2.2.F ht⟩) h.2.2.2.2 hd B.notSynchronized
section QI
variable {p : Program} {l : Launch} {e : Env} {R : Room} {s : State} {m : MethodId} {args : Array Value} {below : List Frame} {meth : Method} {c : Code} {H : Heap} {locs : List Loc} {cells slots : Nat} {Q : State → Prop}
variable {cc : ByteArray} {pc nL : Nat} {ls : Array Slot} {rest : List Value} {g : GK} {A : Nat → Prop} {ws : va_W} {Ts : List Cond} {own : String}
theorem q_inc (E : qE g p m c cc nL s args Ts own A) {i k x : Nat} {lv lv' : List (Nat × Value)} (h : lv_has ls nL lv) (hdg : decode cc pc = .ok (.iinc i 1, 3)) (hk : lv[k]? = some (i, .int (nI x))) (hn : i < nL) (hl : (i, Value.int (nI (x + 1))) :: lv.filter (fun q => !(q.1 == i) && !(q.1 + 1 == i && q.2.category == 2)) = lv') (kk : ∀ ls : Array Slot, lv_has ls nL lv' → W p l e R s m args below meth c H locs cells slots Q (F0 m (pc + 3) ls rest)) : W p l e R s m args below meth c H locs cells slots Q (F0 m pc ls rest) := lv_iinc E.1.1 E.1.2.1 hdg h hk (nI_1 x) hn hl kk
end QI
