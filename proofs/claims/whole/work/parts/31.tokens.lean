/-! ===== THE TEXT's tokens ===== -/
def isD (x : Nat) : Bool := decide (48 ≤ x ∧ x ≤ 57)
def isS (x : Nat) : Bool := decide (97 ≤ x ∧ x ≤ 122)
def blB (len : Nat) (c : Nat → Nat) (i : Nat) : Bool := decide (i < len) && decide (c i = 32)
def dgB (len : Nat) (c : Nat → Nat) (i : Nat) : Bool := decide (i < len) && isD (c i)
def smB (len : Nat) (c : Nat → Nat) (i : Nat) : Bool := decide (i < len) && isS (c i)
def rnF (p : Nat → Bool) : Nat → Nat → Nat
  | 0, i => i
  | f + 1, i => if p i = true then rnF p f (i + 1) else i
theorem rnF_ge (p : Nat → Bool) : ∀ f i, i ≤ rnF p f i := by
  intro f
  induction f with
  | zero => intro i; exact Nat.le_refl i
  | succ f ih => intro i; unfold rnF; split; have := ih (i + 1); omega; exact Nat.le_refl i
theorem rnF_le {p : Nat → Bool} {len : Nat} (hp : ∀ i, p i = true → i < len) : ∀ f i, i ≤ len → rnF p f i ≤ len := by
  intro f
  induction f with
  | zero => intro i h; exact h
  | succ f ih => intro i h; unfold rnF; split; exact ih (i + 1) (by have := hp i (by assumption); omega); exact h
theorem rnF_all {p : Nat → Bool} : ∀ f i j, i ≤ j → j < rnF p f i → p j = true := by
  intro f
  induction f with
  | zero => intro i j h1 h2; unfold rnF at h2; omega
  | succ f ih =>
    intro i j h1 h2
    unfold rnF at h2
    split at h2
    · by_cases e : i = j
      · subst e; assumption
      · exact ih (i + 1) j (by omega) h2
    · omega
theorem rnF_end {p : Nat → Bool} {len : Nat} (hp : ∀ i, p i = true → i < len) : ∀ f i, len ≤ i + f → p (rnF p f i) = false := by
  intro f
  induction f with
  | zero =>
    intro i h
    unfold rnF
    cases hq : p i with
    | false => rfl
    | true => have := hp i hq; omega
  | succ f ih =>
    intro i h
    unfold rnF
    split
    · exact ih (i + 1) (by omega)
    · rename_i h2; simpa using h2
theorem rnF_y {p : Nat → Bool} {f i : Nat} (h : p i = true) : rnF p (f + 1) i = rnF p f (i + 1) := if_pos h
theorem rnF_n {p : Nat → Bool} {f i : Nat} (h : ¬ p i = true) : rnF p f i = i := by
  cases f with
  | zero => rfl
  | succ f => exact if_neg h
/-- so many steps are enough -/
theorem rnF_f {p : Nat → Bool} {len : Nat} (hp : ∀ i, p i = true → i < len) : ∀ f g i, len ≤ i + f → len ≤ i + g → rnF p f i = rnF p g i := by
  intro f
  induction f with
  | zero =>
    intro g i h1 h2
    rw [rnF_n (f := g) (fun q => by have := hp i q; omega)]
    rfl
  | succ f ih =>
    intro g i h1 h2
    by_cases q : p i = true
    · have := hp i q
      obtain ⟨g', rfl⟩ : ∃ g', g = g' + 1 := ⟨g - 1, by omega⟩
      rw [rnF_y q, rnF_y q]
      exact ih g' (i + 1) (by omega) (by omega)
    · rw [rnF_n q, rnF_n q]
theorem blB_lt {len : Nat} {c : Nat → Nat} : ∀ i, blB len c i = true → i < len := fun i h => by unfold blB at h; simp at h; exact h.1
theorem dgB_lt {len : Nat} {c : Nat → Nat} : ∀ i, dgB len c i = true → i < len := fun i h => by unfold dgB at h; simp at h; exact h.1
theorem smB_lt {len : Nat} {c : Nat → Nat} : ∀ i, smB len c i = true → i < len := fun i h => by unfold smB at h; simp at h; exact h.1
/-- where the token behind e begins; where the token at s ends -/
def tkS (len : Nat) (c : Nat → Nat) (e : Nat) : Nat := rnF (blB len c) len e
def tkE (len : Nat) (c : Nat → Nat) (s : Nat) : Nat := if dgB len c s = true then rnF (dgB len c) len s else if smB len c s = true then rnF (smB len c) len s else if s < len then s + 1 else s
theorem tkS_ge (len : Nat) (c : Nat → Nat) (e : Nat) : e ≤ tkS len c e := rnF_ge _ _ _
theorem tkS_le {len : Nat} {c : Nat → Nat} {e : Nat} (h : e ≤ len) : tkS len c e ≤ len := rnF_le blB_lt _ _ h
theorem tkE_ge (len : Nat) (c : Nat → Nat) (s : Nat) : s ≤ tkE len c s := by
  unfold tkE
  split
  · exact rnF_ge _ _ _
  · split
    · exact rnF_ge _ _ _
    · split <;> omega
theorem tkE_le {len : Nat} {c : Nat → Nat} {s : Nat} (h : s ≤ len) : tkE len c s ≤ len := by
  unfold tkE
  split
  · exact rnF_le dgB_lt _ _ h
  · split
    · exact rnF_le smB_lt _ _ h
    · split <;> omega
theorem tkE_dg {len : Nat} {c : Nat → Nat} {s : Nat} (h : dgB len c s = true) : s < tkE len c s ∧ ∀ j, s ≤ j → j < tkE len c s → isD (c j) = true := by
  have e : tkE len c s = rnF (dgB len c) len s := if_pos h
  rw [e]
  refine ⟨?_, fun j h1 h2 => ?_⟩
  · have hl := dgB_lt s h
    rw [rnF_f dgB_lt len (len - s - 1 + 1) s (by omega) (by omega), rnF_y h]
    have := rnF_ge (dgB len c) (len - s - 1) (s + 1)
    omega
  · have := rnF_all len s j h1 h2
    unfold dgB at this
    simp at this
    exact this.2
/-- the text stands there -/
def TX (σ : Sg) (len : Nat) (c : Nat → Nat) : Prop := σ 1 1 = nI len ∧ len ≤ 160 ∧ ∀ i, i < len → σ 2 i = nI (c i) ∧ c i < 256
theorem TX_sg {σ : Sg} {len : Nat} {c : Nat → Nat} (h : TX σ len c) {k : Nat} {x : Int32} (hk : 1 ≠ k) : TX (sg σ 1 k x) len c := ⟨by rw [sg_k _ _ _ hk]; exact h.1, h.2.1, fun i hi => by rw [sg_n _ _ _ (by decide)]; exact h.2.2 i hi⟩
def st2 (σ : Sg) (x y : Int32) : Sg := sg (sg σ 1 2 x) 1 3 y
theorem st2_2 (σ : Sg) (x y z : Int32) : sg (st2 σ x y) 1 2 z = st2 σ z y := by
  unfold st2
  funext b j
  simp only [sg_at]
  by_cases hb : b = 1
  · simp only [hb, if_true]
    by_cases h2 : j = 2
    · simp [h2]
    · simp [h2]
  · simp [hb]
theorem st2_3 (σ : Sg) (x y z : Int32) : sg (st2 σ x y) 1 3 z = st2 σ x z := by
  unfold st2
  funext b j
  simp only [sg_at]
  by_cases hb : b = 1
  · simp only [hb, if_true]
    by_cases h3 : j = 3
    · simp [h3]
    · simp [h3]
  · simp [hb]
theorem sg_idn (σ : Sg) (a k : Nat) : sg σ a k (σ a k) = σ := by
  funext b j
  rw [sg_at]
  by_cases hb : b = a
  · rw [if_pos hb]
    by_cases hj : j = k
    · rw [if_pos hj, hj, hb]
    · rw [if_neg hj, hb]
  · rw [if_neg hb]
theorem st2_of {σ : Sg} {x y : Int32} (h1 : σ 1 2 = x) (h2 : σ 1 3 = y) : σ = st2 σ x y := by
  unfold st2
  rw [← h1, sg_idn, ← h2, sg_idn]
theorem st2_s (σ : Sg) (x y : Int32) : st2 σ x y 1 2 = x := by unfold st2; rw [sg_k _ _ _ (by decide), sg_s]
theorem st2_e (σ : Sg) (x y : Int32) : st2 σ x y 1 3 = y := sg_s _ _ _ _
theorem st2_l (σ : Sg) (x y : Int32) : st2 σ x y 1 1 = σ 1 1 := by unfold st2; rw [sg_k _ _ _ (by decide), sg_k _ _ _ (by decide)]
theorem st2_c (σ : Sg) (x y : Int32) : st2 σ x y 1 4 = σ 1 4 := by unfold st2; rw [sg_k _ _ _ (by decide), sg_k _ _ _ (by decide)]
theorem st2_n (σ : Sg) (x y : Int32) {c : Nat} (h : c ≠ 1) : st2 σ x y c = σ c := by unfold st2; rw [sg_n _ _ _ h, sg_n _ _ _ h]
theorem st2_st2 (σ : Sg) (x y z w : Int32) : st2 (st2 σ x y) z w = st2 σ z w := by
  show sg (sg (st2 σ x y) 1 2 z) 1 3 w = _
  rw [st2_2, st2_3]
theorem TX_st2 {σ : Sg} {len : Nat} {c : Nat → Nat} (h : TX σ len c) (x y : Int32) : TX (st2 σ x y) len c := TX_sg (TX_sg h (by decide)) (by decide)

set_option maxRecDepth 100000 in
theorem k_isDigitAt (σ : Sg) {len i : Nat} {c : Nat → Nat} (hT : TX σ len c) (hi : i ≤ len) : Cm 0 YX7_isDigitAt [.ref 1, .int (nI i)] σ (fun v σ' => v = some (.int (bI (dgB len c i))) ∧ σ' = σ) := by
  refine Cm_of (by decide +kernel) (Nat.le_of_ble_eq_true rfl) ?_
  obtain ⟨h1, h2, h3⟩ := hT
  have key : ∀ (x : Int32) (b : Bool), b = dgB len c i → x = bI b → some (Value.int x) = some (.int (bI (dgB len c i))) ∧ σ = σ := fun x b h h2 => ⟨by rw [h2, h], rfl⟩
  rcases Nat.lt_or_ge i len with hl | hl
  · obtain ⟨h4, h5⟩ := h3 i hl
    have f1 : nI (c i) < 48 → dgB len c i = false := fun z => by
      have := (nI_ltI (a := c i) (b := 48) (by omega) (by decide)).mp z
      unfold dgB isD
      rw [decide_eq_false (p := 48 ≤ c i ∧ c i ≤ 57) (by omega), Bool.and_false]
    have f2 : 57 < nI (c i) → dgB len c i = false := fun z => by
      have := (nI_ltI (a := 57) (b := c i) (by decide) (by omega)).mp z
      unfold dgB isD
      rw [decide_eq_false (p := 48 ≤ c i ∧ c i ≤ 57) (by omega), Bool.and_false]
    have f3 : ¬ nI (c i) < 48 → ¬ 57 < nI (c i) → dgB len c i = true := fun z w => by
      have z2 : ¬ c i < 48 := fun q => z ((nI_ltI (a := c i) (b := 48) (by omega) (by decide)).mpr q)
      have w2 : ¬ 57 < c i := fun q => w ((nI_ltI (a := 57) (b := c i) (by decide) (by omega)).mpr q)
      unfold dgB isD
      rw [decide_eq_true hl, decide_eq_true (p := 48 ≤ c i ∧ c i ≤ 57) (by omega)]
      rfl
    refine x_iload_n dX7_isDigitAt_0 rfl ?_
    refine x_if_lt (tgt := 38) dX7_isDigitAt_1 (by decide) (fun c_1 => (absurd c_1 (nI_pos (by omega)))) (fun c_1 => ?_)
    refine x_iload_n dX7_isDigitAt_4 rfl ?_
    refine x_aload_n dX7_isDigitAt_5 rfl ?_
    refine s_geti (ci := 7) (k := 1) (N := 5) (C := RX7) (T := TX7) dX7_isDigitAt_6 lfX7_15 inX7 rfl (by decide) (rfl) rfl ?_
    refine x_icmp_ge (tgt := 38) dX7_isDigitAt_9 (by decide) (fun c_9 => (absurd c_9 (by rw [h1]; exact nI_ge hl (by omega)))) (fun c_9 => ?_)
    refine x_aload_n dX7_isDigitAt_12 rfl ?_
    refine s_getr (ci := 7) (k := 0) (N := 5) (C := RX7) (T := TX7) dX7_isDigitAt_13 lfX7_9 inX7 rfl (by decide) (rfl) rfl ?_
    refine x_iload_n dX7_isDigitAt_16 rfl ?_
    refine s_cald dX7_isDigitAt_17 (rfl) (hi := rfl) (hj := by omega) (hn := by decide) ?_
    refine x_bipush (v := 48) dX7_isDigitAt_18 (by decide) ?_
    rw [h4]
    refine x_icmp_lt (tgt := 38) dX7_isDigitAt_20 (by decide) (fun c_20 => ?_) (fun c_20 => ?_)
    · refine x_iconst (v := 0) dX7_isDigitAt_38 (by decide) ?_
      exact s_zret dX7_isDigitAt_39 rfl (by first | exact Or.inl rfl | exact Or.inr rfl | assumption) (by first | exact key _ false (f1 c_20).symm rfl | exact key _ false (f2 c_31).symm rfl | exact key _ true (f3 c_20 c_31).symm rfl)
    · refine x_aload_n dX7_isDigitAt_23 rfl ?_
      refine s_getr (ci := 7) (k := 0) (N := 5) (C := RX7) (T := TX7) dX7_isDigitAt_24 lfX7_9 inX7 rfl (by decide) (rfl) rfl ?_
      refine x_iload_n dX7_isDigitAt_27 rfl ?_
      refine s_cald dX7_isDigitAt_28 (rfl) (hi := rfl) (hj := by omega) (hn := by decide) ?_
      refine x_bipush (v := 57) dX7_isDigitAt_29 (by decide) ?_
      rw [h4]
      refine x_icmp_gt (tgt := 38) dX7_isDigitAt_31 (by decide) (fun c_31 => ?_) (fun c_31 => ?_)
      · refine x_iconst (v := 0) dX7_isDigitAt_38 (by decide) ?_
        exact s_zret dX7_isDigitAt_39 rfl (by first | exact Or.inl rfl | exact Or.inr rfl | assumption) (by first | exact key _ false (f1 c_20).symm rfl | exact key _ false (f2 c_31).symm rfl | exact key _ true (f3 c_20 c_31).symm rfl)
      · refine x_iconst (v := 1) dX7_isDigitAt_34 (by decide) ?_
        refine x_goto (tgt := 39) dX7_isDigitAt_35 (by decide) ?_
        exact s_zret dX7_isDigitAt_39 rfl (by first | exact Or.inl rfl | exact Or.inr rfl | assumption) (by first | exact key _ false (f1 c_20).symm rfl | exact key _ false (f2 c_31).symm rfl | exact key _ true (f3 c_20 c_31).symm rfl)
  · have f0 : dgB len c i = false := by unfold dgB; rw [decide_eq_false (Nat.not_lt.mpr hl)]; rfl
    refine x_iload_n dX7_isDigitAt_0 rfl ?_
    refine x_if_lt (tgt := 38) dX7_isDigitAt_1 (by decide) (fun c_1 => (absurd c_1 (nI_pos (by omega)))) (fun c_1 => ?_)
    refine x_iload_n dX7_isDigitAt_4 rfl ?_
    refine x_aload_n dX7_isDigitAt_5 rfl ?_
    refine s_geti (ci := 7) (k := 1) (N := 5) (C := RX7) (T := TX7) dX7_isDigitAt_6 lfX7_15 inX7 rfl (by decide) (rfl) rfl ?_
    refine x_icmp_ge (tgt := 38) dX7_isDigitAt_9 (by decide) (fun c_9 => ?_) (fun c_9 => (absurd (by rw [h1]; exact nI_le hl (by omega)) c_9))
    refine x_iconst (v := 0) dX7_isDigitAt_38 (by decide) ?_
    exact s_zret dX7_isDigitAt_39 rfl (by first | exact Or.inl rfl | exact Or.inr rfl | assumption) (key _ false f0.symm rfl)
set_option maxRecDepth 100000 in
theorem k_isSmallAt (σ : Sg) {len i : Nat} {c : Nat → Nat} (hT : TX σ len c) (hi : i ≤ len) : Cm 0 YX7_isSmallAt [.ref 1, .int (nI i)] σ (fun v σ' => v = some (.int (bI (smB len c i))) ∧ σ' = σ) := by
  refine Cm_of (by decide +kernel) (Nat.le_of_ble_eq_true rfl) ?_
  obtain ⟨h1, h2, h3⟩ := hT
  have key : ∀ (x : Int32) (b : Bool), b = smB len c i → x = bI b → some (Value.int x) = some (.int (bI (smB len c i))) ∧ σ = σ := fun x b h h2 => ⟨by rw [h2, h], rfl⟩
  rcases Nat.lt_or_ge i len with hl | hl
  · obtain ⟨h4, h5⟩ := h3 i hl
    have f1 : nI (c i) < 97 → smB len c i = false := fun z => by
      have := (nI_ltI (a := c i) (b := 97) (by omega) (by decide)).mp z
      unfold smB isS
      rw [decide_eq_false (p := 97 ≤ c i ∧ c i ≤ 122) (by omega), Bool.and_false]
    have f2 : 122 < nI (c i) → smB len c i = false := fun z => by
      have := (nI_ltI (a := 122) (b := c i) (by decide) (by omega)).mp z
      unfold smB isS
      rw [decide_eq_false (p := 97 ≤ c i ∧ c i ≤ 122) (by omega), Bool.and_false]
    have f3 : ¬ nI (c i) < 97 → ¬ 122 < nI (c i) → smB len c i = true := fun z w => by
      have z2 : ¬ c i < 97 := fun q => z ((nI_ltI (a := c i) (b := 97) (by omega) (by decide)).mpr q)
      have w2 : ¬ 122 < c i := fun q => w ((nI_ltI (a := 122) (b := c i) (by decide) (by omega)).mpr q)
      unfold smB isS
      rw [decide_eq_true hl, decide_eq_true (p := 97 ≤ c i ∧ c i ≤ 122) (by omega)]
      rfl
    refine x_iload_n dX7_isSmallAt_0 rfl ?_
    refine x_if_lt (tgt := 38) dX7_isSmallAt_1 (by decide) (fun c_1 => (absurd c_1 (nI_pos (by omega)))) (fun c_1 => ?_)
    refine x_iload_n dX7_isSmallAt_4 rfl ?_
    refine x_aload_n dX7_isSmallAt_5 rfl ?_
    refine s_geti (ci := 7) (k := 1) (N := 5) (C := RX7) (T := TX7) dX7_isSmallAt_6 lfX7_15 inX7 rfl (by decide) (rfl) rfl ?_
    refine x_icmp_ge (tgt := 38) dX7_isSmallAt_9 (by decide) (fun c_9 => (absurd c_9 (by rw [h1]; exact nI_ge hl (by omega)))) (fun c_9 => ?_)
    refine x_aload_n dX7_isSmallAt_12 rfl ?_
    refine s_getr (ci := 7) (k := 0) (N := 5) (C := RX7) (T := TX7) dX7_isSmallAt_13 lfX7_9 inX7 rfl (by decide) (rfl) rfl ?_
    refine x_iload_n dX7_isSmallAt_16 rfl ?_
    refine s_cald dX7_isSmallAt_17 (rfl) (hi := rfl) (hj := by omega) (hn := by decide) ?_
    refine x_bipush (v := 97) dX7_isSmallAt_18 (by decide) ?_
    rw [h4]
    refine x_icmp_lt (tgt := 38) dX7_isSmallAt_20 (by decide) (fun c_20 => ?_) (fun c_20 => ?_)
    · refine x_iconst (v := 0) dX7_isSmallAt_38 (by decide) ?_
      exact s_zret dX7_isSmallAt_39 rfl (by first | exact Or.inl rfl | exact Or.inr rfl | assumption) (by first | exact key _ false (f1 c_20).symm rfl | exact key _ false (f2 c_31).symm rfl | exact key _ true (f3 c_20 c_31).symm rfl)
    · refine x_aload_n dX7_isSmallAt_23 rfl ?_
      refine s_getr (ci := 7) (k := 0) (N := 5) (C := RX7) (T := TX7) dX7_isSmallAt_24 lfX7_9 inX7 rfl (by decide) (rfl) rfl ?_
      refine x_iload_n dX7_isSmallAt_27 rfl ?_
      refine s_cald dX7_isSmallAt_28 (rfl) (hi := rfl) (hj := by omega) (hn := by decide) ?_
      refine x_bipush (v := 122) dX7_isSmallAt_29 (by decide) ?_
      rw [h4]
      refine x_icmp_gt (tgt := 38) dX7_isSmallAt_31 (by decide) (fun c_31 => ?_) (fun c_31 => ?_)
      · refine x_iconst (v := 0) dX7_isSmallAt_38 (by decide) ?_
        exact s_zret dX7_isSmallAt_39 rfl (by first | exact Or.inl rfl | exact Or.inr rfl | assumption) (by first | exact key _ false (f1 c_20).symm rfl | exact key _ false (f2 c_31).symm rfl | exact key _ true (f3 c_20 c_31).symm rfl)
      · refine x_iconst (v := 1) dX7_isSmallAt_34 (by decide) ?_
        refine x_goto (tgt := 39) dX7_isSmallAt_35 (by decide) ?_
        exact s_zret dX7_isSmallAt_39 rfl (by first | exact Or.inl rfl | exact Or.inr rfl | assumption) (by first | exact key _ false (f1 c_20).symm rfl | exact key _ false (f2 c_31).symm rfl | exact key _ true (f3 c_20 c_31).symm rfl)
  · have f0 : smB len c i = false := by unfold smB; rw [decide_eq_false (Nat.not_lt.mpr hl)]; rfl
    refine x_iload_n dX7_isSmallAt_0 rfl ?_
    refine x_if_lt (tgt := 38) dX7_isSmallAt_1 (by decide) (fun c_1 => (absurd c_1 (nI_pos (by omega)))) (fun c_1 => ?_)
    refine x_iload_n dX7_isSmallAt_4 rfl ?_
    refine x_aload_n dX7_isSmallAt_5 rfl ?_
    refine s_geti (ci := 7) (k := 1) (N := 5) (C := RX7) (T := TX7) dX7_isSmallAt_6 lfX7_15 inX7 rfl (by decide) (rfl) rfl ?_
    refine x_icmp_ge (tgt := 38) dX7_isSmallAt_9 (by decide) (fun c_9 => ?_) (fun c_9 => (absurd (by rw [h1]; exact nI_le hl (by omega)) c_9))
    refine x_iconst (v := 0) dX7_isSmallAt_38 (by decide) ?_
    exact s_zret dX7_isSmallAt_39 rfl (by first | exact Or.inl rfl | exact Or.inr rfl | assumption) (key _ false f0.symm rfl)
