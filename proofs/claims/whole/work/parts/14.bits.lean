/-! ===== bits of small numbers; sets ===== -/
theorem bz_or (a b : Nat) : nI a ||| nI b = nI (a ||| b) := by
  apply Int32.toBitVec_inj.mp
  show BitVec.ofNat 32 a ||| BitVec.ofNat 32 b = BitVec.ofNat 32 (a ||| b)
  apply BitVec.eq_of_toNat_eq
  simp [BitVec.toNat_or, BitVec.toNat_ofNat, Nat.or_mod_two_pow]
theorem bz_and (a b : Nat) : nI a &&& nI b = nI (a &&& b) := by
  apply Int32.toBitVec_inj.mp
  show BitVec.ofNat 32 a &&& BitVec.ofNat 32 b = BitVec.ofNat 32 (a &&& b)
  apply BitVec.eq_of_toNat_eq
  simp [BitVec.toNat_and, BitVec.toNat_ofNat, Nat.and_mod_two_pow]
theorem bz_k31 {k : Nat} (h : k < 32) : nI k &&& 31 = nI k := by
  have : ∀ k, k < 32 → nI k &&& 31 = nI k := by decide
  exact this k h
theorem bz_sm {k : Nat} (h : k < 31) : ((nI k).toBitVec.smod 32).toNat = k := by
  have : ∀ k, k < 31 → ((nI k).toBitVec.smod 32).toNat = k := by decide
  exact this k h
theorem bz_shr {a k : Nat} (ha : a < 2 ^ 31) (h : k < 31) : nI a >>> (nI k &&& 31) = nI (a >>> k) := by
  rw [bz_k31 (by omega), pk_shrN ha (nI k) k (bz_sm h), Nat.shiftRight_eq_div_pow]
theorem bz_shl {k : Nat} (h : k < 31) : (1 : Int32) <<< (nI k &&& 31) = nI (2 ^ k) := by
  have h2 : 2 ^ k < 2 ^ 31 := Nat.pow_lt_pow_right (by decide) h
  rw [bz_k31 (by omega), show (1 : Int32) = nI 1 from rfl, pk_shlN (nI k) k (bz_sm h) (by omega), Nat.one_mul]
theorem bz_bit {a k : Nat} (ha : a < 2 ^ 31) (h : k < 31) : (nI a >>> (nI k &&& 31)) &&& 1 = bI (a.testBit k) := by
  rw [bz_shr ha h, show (1 : Int32) = nI 1 from rfl, bz_and, Nat.testBit, Nat.and_comm, bI]
  rw [Nat.and_comm 1, Nat.and_one_is_mod]
  rcases Nat.mod_two_eq_zero_or_one (a >>> k) with e | e <;> rw [e] <;> rfl
theorem bI_0 {b : Bool} : bI b = 0 ↔ b = false := by cases b <;> simp [bI]
theorem bI_1 {b : Bool} : bI b = 1 ↔ b = true := by cases b <;> simp [bI]
theorem bI_n {b : Bool} (h : ¬ bI b = 0) : b = true := by cases b <;> simp_all [bI]
/-- a set out of a test, the first k places -/
def stF (p : Nat → Bool) : Nat → Nat
  | 0 => 0
  | k + 1 => if p k = true then stF p k ||| 2 ^ k else stF p k
theorem stF_lt (p : Nat → Bool) : ∀ k, stF p k < 2 ^ k := by
  intro k
  induction k with
  | zero => exact Nat.one_pos
  | succ k ih =>
    have h1 : 2 ^ k < 2 ^ (k + 1) := Nat.pow_lt_pow_right (by decide) (Nat.lt_succ_self k)
    unfold stF
    split
    · exact Nat.or_lt_two_pow (by omega) h1
    · omega
theorem stF_bit (p : Nat → Bool) : ∀ k j, (stF p k).testBit j = (decide (j < k) && p j) := by
  intro k
  induction k with
  | zero => intro j; simp [stF]
  | succ k ih =>
    intro j
    unfold stF
    by_cases e : j = k
    · subst e
      by_cases hp : p j = true
      · rw [if_pos hp, Nat.testBit_or, ih, Nat.testBit_two_pow_self]; simp [hp]
      · rw [if_neg hp, ih]; simp [hp]
    · have e2 : (2 ^ k).testBit j = false := by rw [Nat.testBit_two_pow]; simp; omega
      have e3 : decide (j < k + 1) = decide (j < k) := by
        by_cases h : j < k
        · simp [h]; omega
        · simp [h]; omega
      by_cases hp : p k = true
      · rw [if_pos hp, Nat.testBit_or, ih, e2, e3, Bool.or_false]
      · rw [if_neg hp, ih, e3]
theorem stF_congr {p q : Nat → Bool} : ∀ k, (∀ j, j < k → p j = q j) → stF p k = stF q k := by
  intro k
  induction k with
  | zero => intro _; rfl
  | succ k ih =>
    intro h
    unfold stF
    rw [ih (fun j hj => h j (by omega)), h k (by omega)]
theorem stF_s {p : Nat → Bool} {k : Nat} (hk : k < 31) (h : p k = true) : nI (stF p k) ||| ((1 : Int32) <<< (nI k &&& 31)) = nI (stF p (k + 1)) := by
  rw [bz_shl hk, bz_or]
  show _ = nI (if p k = true then stF p k ||| 2 ^ k else stF p k)
  rw [if_pos h]
theorem stF_n {p : Nat → Bool} {k : Nat} (h : ¬ p k = true) : nI (stF p k) = nI (stF p (k + 1)) := by
  show _ = nI (if p k = true then stF p k ||| 2 ^ k else stF p k)
  rw [if_neg h]
/-- kept by sw, sg where the cell is another one -/
theorem sw_sw (σ : Sg) (a : Nat) (f g : FN) : sw (sw σ a f) a g = sw σ a g := by
  funext b
  unfold sw
  split <;> rfl
theorem sw_sg (σ : Sg) (a k : Nat) (x : Int32) (g : FN) : sw (sg σ a k x) a g = sw σ a g := sw_sw _ _ _ _
theorem sw_id (σ : Sg) (a : Nat) : sw σ a (σ a) = σ := by
  funext b
  unfold sw
  split
  · rename_i h; rw [h]
  · rfl
theorem sg_row (σ : Sg) (a k : Nat) (x : Int32) : sg σ a k x a = upd (σ a) k x := sw_s _ _ _
theorem sg_def (σ : Sg) (a k : Nat) (x : Int32) : sg σ a k x = sw σ a (upd (σ a) k x) := rfl
theorem xname {E : xE} {pc : Nat} {L S : List Value} {σ' : Sg} {Q : Option Value → xM → Prop} (k : ∀ s, s = σ' → Ex E pc L S (xMs s) Q) : Ex E pc L S (xMs σ') Q := k _ rfl
theorem xtop {E : xE} {pc : Nat} {L S : List Value} {x : Int32} {M : xM} {Q : Option Value → xM → Prop} (k : ∀ y, y = x → Ex E pc L (.int y :: S) M Q) : Ex E pc L (.int x :: S) M Q := k _ rfl
theorem sw_at (σ : Sg) (a : Nat) (f : FN) (b : Nat) : sw σ a f b = if b = a then f else σ b := rfl
theorem sg_at (σ : Sg) (a k : Nat) (x : Int32) (b j : Nat) : sg σ a k x b j = if b = a then (if j = k then x else σ a j) else σ b j := by
  unfold sg sw upd
  split <;> rfl
theorem sg_rw (σ : Sg) (a k : Nat) (x : Int32) (b : Nat) : sg σ a k x b = if b = a then upd (σ a) k x else σ b := rfl
