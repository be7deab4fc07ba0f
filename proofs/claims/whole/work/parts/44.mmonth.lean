/-! ===== RainBallotModel's calls, 5: month ===== -/

theorem fdF_add {S : Type} (g : Nat → S → S) (s : S) (a : Nat) : ∀ b, fdF g (a + b) s = fdF (fun x => g (a + x)) b (fdF g a s) := by
  intro b
  induction b with
  | zero => rfl
  | succ b ih => show g (a + b) (fdF g (a + b) s) = g (a + b) _; rw [ih]
theorem fdF_blk {S : Type} (g : Nat → S → S) (s : S) (m : Nat) : ∀ c, fdF g (c * m) s = fdF (fun i st => fdF (fun x => g (i * m + x)) m st) c s := by
  intro c
  induction c with
  | zero => rw [Nat.zero_mul]; rfl
  | succ c ih => rw [Nat.succ_mul, fdF_add, ih]; rfl
theorem fdF_congr {S : Type} {g g' : Nat → S → S} : ∀ k, (∀ i, i < k → ∀ s, g i s = g' i s) → ∀ s, fdF g k s = fdF g' k s := by
  intro k
  induction k with
  | zero => intro _ s; rfl
  | succ k ih => intro h s; show g k (fdF g k s) = g' k (fdF g' k s); rw [ih (fun i hi => h i (by omega)), h k (by omega)]
theorem on_st (q : Nat → Bool) (n : Nat) : ∀ k, onF (stF q n) k ≤ n := by
  intro k
  have h : onF (stF q n) k ≤ min k n := by
    induction k with
    | zero => exact Nat.zero_le _
    | succ k ih =>
      unfold onF
      rw [stF_bit]
      by_cases e : k < n
      · split <;> omega
      · rw [decide_eq_false e, Bool.false_and, if_neg (by decide)]; omega
  omega
theorem ct_le (p : PL) (o : MO) : ctF p o ≤ p.1 := on_st _ _ 8
/-- the moment behind the last r days of row x -/
def evF (p : PL) : Nat → MO → Nat → MO
  | 0, o, _ => o
  | r + 1, o, x => evF p r (psF p o (nI (x / p.1 ^ r % p.1))) x
theorem ev_mod {p : PL} (h0 : 0 < p.1) : ∀ r o y x, evF p r o (y * p.1 ^ r + x) = evF p r o x := by
  intro r
  induction r with
  | zero => intro o y x; rfl
  | succ r ih =>
    intro o y x
    have hp : 0 < p.1 ^ r := Nat.pow_pos h0
    have e : y * p.1 ^ (r + 1) + x = (y * p.1) * p.1 ^ r + x := by rw [Nat.pow_succ, Nat.mul_comm (p.1 ^ r), ← Nat.mul_assoc]
    unfold evF
    rw [e, ih, Nat.add_comm, Nat.add_mul_div_right _ _ hp, Nat.add_mul_mod_self_right]
def gmF (p : PL) (r : Nat) (o : MO) (base : Nat) (x : Nat) (st : Int32 × Nat) : Int32 × Nat := if st.1 < nI (ctF p (evF p r o x)) then (nI (ctF p (evF p r o x)), base + x) else st
def dgF (n D x : Nat) : FN := tr D (fun i => nI (x / n ^ (D - 1 - i) % n))
def RM (n D : Nat) (st : Int32 × FN) (st' : Int32 × Nat) : Prop := st.1 = st'.1 ∧ (st.1 = -1 ∨ st.2 = dgF n D st'.2)
theorem ex_gm {p : PL} {D : Nat} (hn8 : p.1 ≤ 8) (h0 : 0 < p.1) : ∀ (r : Nat) (o : MO) (B : Nat) (row : FN) (st : Int32 × FN) (st' : Int32 × Nat), r ≤ D → tr (D - r) row = tr (D - r) (dgF p.1 D (B * p.1 ^ r)) → RM p.1 D st st' → RM p.1 D (exF p D r o row st) (fdF (gmF p r o (B * p.1 ^ r)) (p.1 ^ r) st') := by
  intro r
  induction r with
  | zero =>
    intro o B row st st' _ hr hR
    show RM p.1 D (if st.1 < nI (ctF p o) then (nI (ctF p o), tr D row) else st) (if st'.1 < nI (ctF p o) then (nI (ctF p o), B * p.1 ^ 0 + 0) else st')
    rw [← hR.1]
    split
    · refine ⟨rfl, Or.inr ?_⟩
      show tr D row = dgF p.1 D (B * p.1 ^ 0 + 0)
      rw [show D - 0 = D from rfl] at hr
      rw [hr, Nat.add_zero]
      exact tr_tr _ _
    · exact hR
  | succ r ih =>
    intro o B row st st' hrD hr hR
    have hp : 0 < p.1 ^ r := Nat.pow_pos h0
    have hB : B * p.1 ^ (r + 1) = (B * p.1) * p.1 ^ r := by rw [Nat.pow_succ, Nat.mul_comm (p.1 ^ r), ← Nat.mul_assoc]
    rw [show p.1 ^ (r + 1) = p.1 * p.1 ^ r from by rw [Nat.pow_succ, Nat.mul_comm], fdF_blk]
    have hin : ∀ i, i < p.1 → ∀ s : Int32 × Nat, fdF (fun x => gmF p (r + 1) o (B * (p.1 * p.1 ^ r)) (i * p.1 ^ r + x)) (p.1 ^ r) s = fdF (gmF p r (psF p o (nI i)) ((B * p.1 + i) * p.1 ^ r)) (p.1 ^ r) s := fun i hi s => by
      refine fdF_congr _ (fun x hx s => ?_) s
      have e1 : (i * p.1 ^ r + x) / p.1 ^ r % p.1 = i := by
        rw [Nat.add_comm, Nat.add_mul_div_right _ _ hp, Nat.div_eq_of_lt hx, Nat.zero_add, Nat.mod_eq_of_lt hi]
      have e2 : evF p (r + 1) o (i * p.1 ^ r + x) = evF p r (psF p o (nI i)) x := by
        show evF p r (psF p o (nI ((i * p.1 ^ r + x) / p.1 ^ r % p.1))) (i * p.1 ^ r + x) = _
        rw [e1, ev_mod h0]
      have e3 : B * (p.1 * p.1 ^ r) + (i * p.1 ^ r + x) = (B * p.1 + i) * p.1 ^ r + x := by
        rw [Nat.add_mul, ← Nat.mul_assoc, Nat.add_assoc]
      unfold gmF
      rw [e2, e3]
    rw [fdF_congr _ hin]
    have key : ∀ c, c < p.1 → ∀ s1 s2, RM p.1 D s1 s2 → RM p.1 D (if s1.1 < nI p.1 then exF p D r (psF p o (nI c)) (upd row (D - (r + 1)) (nI c)) s1 else s1) (fdF (gmF p r (psF p o (nI c)) ((B * p.1 + c) * p.1 ^ r)) (p.1 ^ r) s2) := by
      intro c hc s1 s2 h
      split
      · refine ih _ _ _ _ _ (by omega) ?_ h
        refine tr_ext fun i hi => ?_
        unfold dgF
        rw [tr_i (by omega)]
        unfold upd
        by_cases e : i = D - (r + 1)
        · rw [if_pos e, show D - 1 - i = r by omega, Nat.mul_div_cancel _ hp, Nat.mul_comm B, Nat.mul_add_mod, Nat.mod_eq_of_lt (by omega)]
        · rw [if_neg e]
          have q := congrFun hr i
          rw [tr_i (by omega), tr_i (by omega)] at q
          unfold dgF at q
          rw [tr_i (by omega)] at q
          rw [q]
          obtain ⟨f, hf⟩ : ∃ f, D - 1 - i = (r + 1) + f := ⟨D - 1 - i - (r + 1), by omega⟩
          have e4 : p.1 ^ (r + 1 + f) = p.1 ^ (r + 1) * p.1 ^ f := Nat.pow_add _ _ _
          have e5 : (B * p.1 + c) * p.1 ^ r / p.1 ^ (r + 1) = B := by
            rw [Nat.pow_succ, ← Nat.div_div_eq_div_mul, Nat.mul_div_cancel _ hp, Nat.mul_comm B, Nat.mul_add_div h0, Nat.div_eq_of_lt hc, Nat.add_zero]
          rw [hf, e4, ← Nat.div_div_eq_div_mul, ← Nat.div_div_eq_div_mul, Nat.mul_div_cancel B (Nat.pow_pos h0), e5]
      · rename_i hlt
        have same : ∀ k, fdF (gmF p r (psF p o (nI c)) ((B * p.1 + c) * p.1 ^ r)) k s2 = s2 := by
          intro k
          induction k with
          | zero => rfl
          | succ k ihk =>
            show gmF p r _ _ k (fdF _ k s2) = s2
            rw [ihk]
            refine if_neg (fun z => hlt ?_)
            rw [h.1]
            exact Int32.lt_of_lt_of_le z (nI_le (ct_le _ _) (by omega))
        rw [same]
        exact h
    have go : ∀ c, c ≤ p.1 → RM p.1 D (fdF (fun s st => if st.1 < nI p.1 then exF p D r (psF p o (nI s)) (upd row (D - (r + 1)) (nI s)) st else st) c st) (fdF (fun i st => fdF (gmF p r (psF p o (nI i)) ((B * p.1 + i) * p.1 ^ r)) (p.1 ^ r) st) c st') := by
      intro c
      induction c with
      | zero => intro _; exact hR
      | succ c ihc => intro hc; exact key c (by omega) _ _ (ihc (by omega))
    exact go p.1 (Nat.le_refl _)
theorem gm_pos {p : PL} {r : Nat} {o : MO} {b : Nat} (hn8 : p.1 ≤ 8) : ∀ k, ∃ c, c ≤ 8 ∧ (fdF (gmF p r o b) (k + 1) (-1, 0)).1 = nI c := by
  intro k
  have hc : ∀ x, ctF p (evF p r o x) ≤ 8 := fun x => Nat.le_trans (ct_le _ _) hn8
  induction k with
  | zero =>
    refine ⟨_, hc 0, ?_⟩
    show (gmF p r o b 0 (-1, 0)).1 = _
    unfold gmF
    rw [if_pos (Int32.lt_of_lt_of_le (by decide : (-1 : Int32) < 0) (nI_pos' (by have := hc 0; omega)))]
  | succ k ih =>
    have e : fdF (gmF p r o b) (k + 1 + 1) (-1, 0) = gmF p r o b (k + 1) (fdF (gmF p r o b) (k + 1) (-1, 0)) := rfl
    rw [e]
    unfold gmF at ih ⊢
    split
    · exact ⟨_, hc _, rfl⟩
    · exact ih
/-- the month's answer by the flat count -/
theorem mr_gm {p : PL} {o : MO} {D : Nat} (hn8 : p.1 ≤ 8) (h0 : 0 < p.1) (b : FN) : (mrF p o D b).1 = (fdF (gmF p D o 0) (p.1 ^ D) (-1, 0)).1 ∧ (mrF p o D b).2 = dgF p.1 D (fdF (gmF p D o 0) (p.1 ^ D) (-1, 0)).2 := by
  have h := ex_gm hn8 h0 D o 0 (fun _ => 0) (-1, b) (-1, 0) (Nat.le_refl _) (tr_ext fun i hi => by omega) ⟨rfl, Or.inl rfl⟩
  rw [Nat.zero_mul] at h
  refine ⟨h.1, h.2.resolve_left (fun z => ?_)⟩
  obtain ⟨k, hk⟩ : ∃ k, p.1 ^ D = k + 1 := ⟨p.1 ^ D - 1, by have : 0 < p.1 ^ D := Nat.pow_pos h0; omega⟩
  obtain ⟨c, hc, e⟩ := gm_pos (p := p) (r := D) (o := o) (b := 0) hn8 k
  rw [h.1, hk, e] at z
  have := nI_pos' (n := c) (by omega)
  rw [z] at this
  exact absurd this (by decide)
