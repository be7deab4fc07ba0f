/-! ===== pure words, and the contracts of the leaves ===== -/
/-- a Plan stands at P, a Moment at m -/
def xPl (P : Nat) : Prop := xShp[P]? = some (.inr (3, [some (P + 1), some (P + 2), some (P + 3), some (P + 4), some (P + 5), none, none, none])) ∧ xShp[P + 1]? = some (.inl (0, 8, none)) ∧ xShp[P + 2]? = some (.inl (0, 8, none)) ∧ xShp[P + 3]? = some (.inl (0, 8, none)) ∧ xShp[P + 4]? = some (.inl (0, 8, none)) ∧ xShp[P + 5]? = some (.inl (0, 8, none))
def xMl : List Nat := [15, 18, 23, 26, 29, 32, 35, 38, 41, 44, 50, 53, 66, 69, 72, 75, 78]
def xMo (m : Nat) : Prop := xShp[m]? = some (.inr (1, [some (m + 1), some (m + 2), none, none])) ∧ xShp[m + 1]? = some (.inl (0, 8, none)) ∧ xShp[m + 2]? = some (.inl (0, 8, none)) ∧ m ∈ xMl
theorem xMo_all : ∀ m ∈ xMl, xMo m := by
  intro m h
  simp only [xMl, List.mem_cons, List.not_mem_nil, or_false] at h
  rcases h with rfl | rfl | rfl | rfl | rfl | rfl | rfl | rfl | rfl | rfl | rfl | rfl | rfl | rfl | rfl | rfl | rfl <;> exact ⟨rfl, rfl, rfl, by decide⟩
theorem mo_15 : xMo 15 := xMo_all 15 (by decide)
theorem mo_18 : xMo 18 := xMo_all 18 (by decide)
theorem xMo_ge {m : Nat} (h : xMo m) : 15 ≤ m := by
  have : ∀ m ∈ xMl, 15 ≤ m := by decide
  exact this m h.2.2.2
/-- cells of no Moment -/
def xFar (c : Nat) : Bool := xMl.all (fun m => c != m && (c != m + 1 && c != m + 2))
theorem xMo_far {m c : Nat} (h : xMo m) (hc : xFar c = true) : c ≠ m ∧ c ≠ m + 1 ∧ c ≠ m + 2 := by
  have := List.all_eq_true.mp hc m h.2.2.2
  simpa using this
/-- two Moments are one, or apart -/
theorem xMo_two {m o : Nat} (h : xMo m) (h2 : xMo o) (hne : m ≠ o) : m + 2 < o ∨ o + 2 < m := by
  have : ∀ m ∈ xMl, ∀ o ∈ xMl, m ≠ o → m + 2 < o ∨ o + 2 < m := by decide
  exact this m h.2.2.2 o h2.2.2.2 hne
theorem pl_3 : xPl 3 := ⟨rfl, rfl, rfl, rfl, rfl, rfl⟩
theorem pl_9 : xPl 9 := ⟨rfl, rfl, rfl, rfl, rfl, rfl⟩
abbrev FN : Type := Nat → Int32
/-- n, cap, inches, kind, need, voters, water, slope -/
abbrev PL : Type := Nat × Int32 × Int32 × FN × FN × FN × FN × FN
/-- water, voters, where it rained, the day -/
abbrev MO : Type := FN × FN × Int32 × Int32
def tr (n : Nat) (f : FN) : FN := fun k => if k < n then f k else 0
theorem tr_i {n k : Nat} {f : FN} (h : k < n) : tr n f k = f k := if_pos h
theorem tr_o {n k : Nat} {f : FN} (h : ¬ k < n) : tr n f k = 0 := if_neg h
theorem tr_ext {n : Nat} {f g : FN} (h : ∀ k, k < n → f k = g k) : tr n f = tr n g := by
  funext k
  unfold tr
  by_cases hk : k < n
  · rw [if_pos hk, if_pos hk, h k hk]
  · rw [if_neg hk, if_neg hk]
theorem tr_iff {n : Nat} {f g : FN} : tr n f = tr n g ↔ ∀ k, k < n → f k = g k := ⟨fun h k hk => by have := congrFun h k; rwa [tr_i hk, tr_i hk] at this, tr_ext⟩
theorem tr_tr (n : Nat) (f : FN) : tr n (tr n f) = tr n f := tr_ext fun _ h => tr_i h
theorem tr_upd {n a : Nat} {f : FN} {x : Int32} (h : a < n) : tr n (upd f a x) = upd (tr n f) a x := by
  funext k
  unfold tr upd
  by_cases e : k = a
  · subst e; rw [if_pos h, if_pos rfl, if_pos rfl]
  · rw [if_neg e, if_neg e]
def plC (n : Nat) (σ : Sg) : PL := (n, σ 3 6, σ 3 7, tr n (σ 4), tr n (σ 5), tr n (σ 6), tr n (σ 7), tr n (σ 8))
def moC (n : Nat) (σ : Sg) (m : Nat) : MO := (tr n (σ (m + 1)), tr n (σ (m + 2)), σ m 2, σ m 3)
def bI (b : Bool) : Int32 := if b = true then 1 else 0
theorem bI_01 (b : Bool) : bI b = 0 ∨ bI b = 1 := by cases b <;> simp [bI]
/-- a street's number, or none -/
def inb (n : Nat) (s : Int32) : Bool := decide (¬ s < 0 ∧ ¬ nI n ≤ s)
theorem inb_nI {n k : Nat} (h : k < n) (hn : n ≤ 1000) : inb n (nI k) = true := decide_eq_true ⟨nI_pos (by omega), nI_ge h (by omega)⟩
theorem inb_m1 (n : Nat) : inb n (-1) = false := decide_eq_false (fun h => h.1 (by decide))
theorem inb_t {n : Nat} {s : Int32} (hn : n ≤ 1000) (h : inb n s = true) : ∃ k, k < n ∧ s = nI k := by
  obtain ⟨h1, h2⟩ := of_decide_eq_true h
  rcases pk_ix s (n := n) (by omega) with h3 | h3 | ⟨j, h3, h4⟩
  · exact absurd h3 h1
  · exact absurd h3 h2
  · exact ⟨j, h3, h4⟩
theorem inb_lt {n : Nat} {s : Int32} (h : s < 0) : inb n s = false := decide_eq_false (fun q => q.1 h)
theorem inb_ge {n : Nat} {s : Int32} (h : nI n ≤ s) : inb n s = false := decide_eq_false (fun q => q.2 h)
theorem inb_ok {n : Nat} {s : Int32} (h : ¬ s < 0) (h2 : ¬ nI n ≤ s) : inb n s = true := decide_eq_true ⟨h, h2⟩
theorem nI8 {n : Nat} (hn : n ≤ 8) {s : Int32} (h : (8 : Int32) ≤ s) : nI n ≤ s := Int32.le_trans (nI_le hn (by omega)) h
set_option maxRecDepth 100000 in
theorem k_has (σ : Sg) {P n : Nat} (hP : xPl P) (hn : σ P 5 = nI n) (hn8 : n ≤ 8) (s : Int32) : Cm 0 YX3_has [.ref P, .int s] σ (fun v σ' => v = some (.int (bI (inb n s))) ∧ σ' = σ) := by
  refine Cm_of (by decide +kernel) (Nat.le_of_ble_eq_true rfl) ?_
  have e : ∀ c : Bool, c = inb n s → ∀ x : Int32, x = bI c → some (Value.int x) = some (Value.int (bI (inb n s))) ∧ σ = σ := fun c h x h2 => ⟨by rw [h2, h], rfl⟩
  refine x_iload_n dX3_has_0 rfl ?_
  refine x_if_lt (tgt := 22) dX3_has_1 (by decide) (fun c_1 => ?_) (fun c_1 => ?_)
  · refine x_iconst (v := 0) dX3_has_22 (by decide) ?_
    exact s_zret dX3_has_23 rfl (by first | exact Or.inl rfl | exact Or.inr rfl | assumption) (by first | exact e true (inb_ok c_1 (by rw [← hn]; exact c_9)).symm _ rfl | exact e false (inb_lt c_1).symm _ rfl | exact e false (inb_ge (by rw [← hn]; exact c_9)).symm _ rfl | exact e false (inb_ge (nI8 hn8 c_15)).symm _ rfl)
  · refine x_iload_n dX3_has_4 rfl ?_
    refine x_aload_n dX3_has_5 rfl ?_
    refine s_geti (ci := 3) (k := 5) (N := 8) (C := RX3) (T := TX3) dX3_has_6 lfX3_27 inX3 rfl (by decide) (hP.1) rfl ?_
    refine x_icmp_ge (tgt := 22) dX3_has_9 (by decide) (fun c_9 => ?_) (fun c_9 => ?_)
    · refine x_iconst (v := 0) dX3_has_22 (by decide) ?_
      exact s_zret dX3_has_23 rfl (by first | exact Or.inl rfl | exact Or.inr rfl | assumption) (by first | exact e true (inb_ok c_1 (by rw [← hn]; exact c_9)).symm _ rfl | exact e false (inb_lt c_1).symm _ rfl | exact e false (inb_ge (by rw [← hn]; exact c_9)).symm _ rfl | exact e false (inb_ge (nI8 hn8 c_15)).symm _ rfl)
    · refine x_iload_n dX3_has_12 rfl ?_
      refine x_bipush (v := 8) dX3_has_13 (by decide) ?_
      refine x_icmp_ge (tgt := 22) dX3_has_15 (by decide) (fun c_15 => ?_) (fun c_15 => ?_)
      · refine x_iconst (v := 0) dX3_has_22 (by decide) ?_
        exact s_zret dX3_has_23 rfl (by first | exact Or.inl rfl | exact Or.inr rfl | assumption) (by first | exact e true (inb_ok c_1 (by rw [← hn]; exact c_9)).symm _ rfl | exact e false (inb_lt c_1).symm _ rfl | exact e false (inb_ge (by rw [← hn]; exact c_9)).symm _ rfl | exact e false (inb_ge (nI8 hn8 c_15)).symm _ rfl)
      · refine x_iconst (v := 1) dX3_has_18 (by decide) ?_
        refine x_goto (tgt := 23) dX3_has_19 (by decide) ?_
        exact s_zret dX3_has_23 rfl (by first | exact Or.inl rfl | exact Or.inr rfl | assumption) (by first | exact e true (inb_ok c_1 (by rw [← hn]; exact c_9)).symm _ rfl | exact e false (inb_lt c_1).symm _ rfl | exact e false (inb_ge (by rw [← hn]; exact c_9)).symm _ rfl | exact e false (inb_ge (nI8 hn8 c_15)).symm _ rfl)
def wantF (kd nd : FN) (k : Nat) : Int32 := if kd k = 3 then 0 else if kd k = 1 then 2 * nd k else nd k
set_option maxRecDepth 100000 in
theorem k_wants (σ : Sg) {n k : Nat} (hn : σ 3 5 = nI n) (hn8 : n ≤ 8) (hk : k < n) : Cm 0 YX3_wants [.ref 3, .int (nI k)] σ (fun v σ' => v = some (.int (wantF (tr n (σ 4)) (tr n (σ 5)) k)) ∧ σ' = σ) := by
  refine Cm_of (by decide +kernel) (Nat.le_of_ble_eq_true rfl) ?_
  unfold wantF
  rw [tr_i hk, tr_i hk]
  refine x_iload_n dX3_wants_0 rfl ?_
  refine x_if_lt (tgt := 22) dX3_wants_1 (by decide) (fun c_1 => (absurd c_1 (nI_pos (by omega)))) (fun c_1 => ?_)
  refine x_iload_n dX3_wants_4 rfl ?_
  refine x_aload_n dX3_wants_5 rfl ?_
  refine s_geti (ci := 3) (k := 5) (N := 8) (C := RX3) (T := TX3) dX3_wants_6 lfX3_27 inX3 rfl (by decide) (rfl) rfl ?_
  refine x_icmp_ge (tgt := 22) dX3_wants_9 (by decide) (fun c_9 => (absurd c_9 (by rw [hn]; exact nI_ge hk (by omega)))) (fun c_9 => ?_)
  refine x_aload_n dX3_wants_12 rfl ?_
  refine s_getr (ci := 3) (k := 0) (N := 8) (C := RX3) (T := TX3) dX3_wants_13 lfX3_9 inX3 rfl (by decide) (rfl) rfl ?_
  refine x_iload_n dX3_wants_16 rfl ?_
  refine s_iald dX3_wants_17 (rfl) (hi := rfl) (hj := by omega) (hn := by decide) ?_
  refine x_iconst (v := 3) dX3_wants_18 (by decide) ?_
  refine x_icmp_ne (tgt := 24) dX3_wants_19 (by decide) (fun c_19 => ?_) (fun c_19 => ?_)
  · refine x_aload_n dX3_wants_24 rfl ?_
    refine s_getr (ci := 3) (k := 0) (N := 8) (C := RX3) (T := TX3) dX3_wants_25 lfX3_9 inX3 rfl (by decide) (rfl) rfl ?_
    refine x_iload_n dX3_wants_28 rfl ?_
    refine s_iald dX3_wants_29 (rfl) (hi := rfl) (hj := by omega) (hn := by decide) ?_
    refine x_iconst (v := 1) dX3_wants_30 (by decide) ?_
    refine x_icmp_ne (tgt := 45) dX3_wants_31 (by decide) (fun c_31 => ?_) (fun c_31 => ?_)
    · refine x_aload_n dX3_wants_45 rfl ?_
      refine s_getr (ci := 3) (k := 1) (N := 8) (C := RX3) (T := TX3) dX3_wants_46 lfX3_15 inX3 rfl (by decide) (rfl) rfl ?_
      refine x_iload_n dX3_wants_49 rfl ?_
      refine s_iald dX3_wants_50 (rfl) (hi := rfl) (hj := by omega) (hn := by decide) ?_
      exact s_iret dX3_wants_51 rfl (by simp_all)
    · refine x_iconst (v := 2) dX3_wants_34 (by decide) ?_
      refine x_aload_n dX3_wants_35 rfl ?_
      refine s_getr (ci := 3) (k := 1) (N := 8) (C := RX3) (T := TX3) dX3_wants_36 lfX3_15 inX3 rfl (by decide) (rfl) rfl ?_
      refine x_iload_n dX3_wants_39 rfl ?_
      refine s_iald dX3_wants_40 (rfl) (hi := rfl) (hj := by omega) (hn := by decide) ?_
      refine x_imul dX3_wants_41 ?_
      refine x_goto (tgt := 51) dX3_wants_42 (by decide) ?_
      exact s_iret dX3_wants_51 rfl (by simp_all)
  · refine x_iconst (v := 0) dX3_wants_22 (by decide) ?_
    exact s_iret dX3_wants_23 rfl (by simp_all)
/-- the driest of the first k but one, of several the first; none: -1 -/
def drF (w : FN) (but : Int32) : Nat → Int32
  | 0 => -1
  | k + 1 => if ¬ nI k = but ∧ (drF w but k = -1 ∨ w k < w (drF w but k).toNatClampNeg) then nI k else drF w but k
theorem drF_s1 {w : FN} {but : Int32} {k : Nat} (h : nI k = but) : drF w but (k + 1) = drF w but k := if_neg (fun q => q.1 h)
theorem drF_s2 {w : FN} {but : Int32} {k : Nat} (h : ¬ drF w but k = -1) (h2 : w (drF w but k).toNatClampNeg ≤ w k) : drF w but (k + 1) = drF w but k := if_neg (fun q => q.2.elim h (Int32.not_lt.mpr h2))
theorem drF_t {w : FN} {but : Int32} {k : Nat} (h : ¬ nI k = but) (h2 : drF w but k = -1 ∨ w k < w (drF w but k).toNatClampNeg) : drF w but (k + 1) = nI k := if_pos ⟨h, h2⟩
theorem drF_in (w : FN) (but : Int32) : ∀ k, drF w but k = -1 ∨ ∃ j, j < k ∧ drF w but k = nI j := by
  intro k
  induction k with
  | zero => exact Or.inl rfl
  | succ k ih =>
    unfold drF
    split
    · exact Or.inr ⟨k, Nat.lt_succ_self k, rfl⟩
    · rcases ih with h | ⟨j, h1, h2⟩
      · exact Or.inl h
      · exact Or.inr ⟨j, Nat.lt_succ_of_lt h1, h2⟩

set_option maxRecDepth 100000 in
/-- driest: the loop -/
theorem l_driest (σ : Sg) {n m : Nat} {but : Int32} (hm : xMo m) (hn : σ 3 5 = nI n) (hn8 : n ≤ 8) : ∀ (j k : Nat), k + j = n → ∀ lst : Int32, (¬ drF (σ (m + 1)) but k = -1 → lst = σ (m + 1) (drF (σ (m + 1)) but k).toNatClampNeg) →
    Ex (YX1_driest, 1, xB0, none) 8 [.ref m, .ref 3, .int but, .int (drF (σ (m + 1)) but k), .int lst, .int (nI k)] [] (xMs σ) (xQ (fun v σ' => v = some (.int (drF (σ (m + 1)) but n)) ∧ σ' = σ)) := by
  intro j
  induction j with
  | zero =>
    intro k hk lst hl
    have hk : k = n := by omega
    subst hk
    refine x_iload dX1_driest_8 rfl ?_
    refine x_aload_n dX1_driest_10 rfl ?_
    refine s_getiN (ci := 3) (k := 5) (N := 8) (C := RX3) (T := TX3) dX1_driest_11 lfX1_39 inX3 rfl (by decide) (rfl) rfl ?_
    refine x_icmp_ge (tgt := 58) dX1_driest_14 (by decide) (fun c_14 => ?_) (fun c_14 => (absurd (by rw [hn]; exact Int32.le_refl _) c_14))
    refine x_iload_n dX1_driest_58 rfl ?_
    exact s_iret dX1_driest_59 rfl (⟨rfl, rfl⟩)
  | succ j ih =>
    intro k hk lst hl
    have hkn : k < n := by omega
    have step : ∀ (x lst2 : Int32), x = drF (σ (m + 1)) but (k + 1) → (¬ x = -1 → lst2 = σ (m + 1) x.toNatClampNeg) → Ex (YX1_driest, 1, xB0, none) 8 [.ref m, .ref 3, .int but, .int x, .int lst2, .int (nI (k + 1))] [] (xMs σ) (xQ (fun v σ' => v = some (.int (drF (σ (m + 1)) but n)) ∧ σ' = σ)) := fun x lst2 hx hl2 => by
      subst hx
      exact ih (k + 1) (by omega) lst2 hl2
    refine x_iload dX1_driest_8 rfl ?_
    refine x_aload_n dX1_driest_10 rfl ?_
    refine s_getiN (ci := 3) (k := 5) (N := 8) (C := RX3) (T := TX3) dX1_driest_11 lfX1_39 inX3 rfl (by decide) (rfl) rfl ?_
    refine x_icmp_ge (tgt := 58) dX1_driest_14 (by decide) (fun c_14 => (absurd c_14 (by rw [hn]; exact nI_ge hkn (by omega)))) (fun c_14 => ?_)
    refine x_iload dX1_driest_17 rfl ?_
    refine x_iload_n dX1_driest_19 rfl ?_
    refine x_icmp_eq (tgt := 52) dX1_driest_20 (by decide) (fun c_20 => ?_) (fun c_20 => ?_)
    · refine s_iinc dX1_driest_52 rfl (by decide) rfl ?_
      refine x_goto (tgt := 8) dX1_driest_55 (by decide) ?_
      first | exact step _ _ (drF_s1 c_20).symm hl | exact step _ _ (drF_s2 c_25 (by rw [← hl c_25]; exact c_37)).symm hl | exact step _ _ (drF_t c_20 (Or.inl c_25)).symm (fun _ => by rw [nI_clamp (by omega)]) | exact step _ _ (drF_t c_20 (Or.inr (by rw [← hl c_25]; exact Int32.not_le.mp c_37))).symm (fun _ => by rw [nI_clamp (by omega)])
    · refine x_iload_n dX1_driest_23 rfl ?_
      refine x_iconst (v := -1) dX1_driest_24 (by decide) ?_
      refine x_icmp_eq (tgt := 40) dX1_driest_25 (by decide) (fun c_25 => ?_) (fun c_25 => ?_)
      · refine x_iload dX1_driest_40 rfl ?_
        refine x_istore_n dX1_driest_42 (by decide) rfl ?_
        refine x_aload_n dX1_driest_43 rfl ?_
        refine s_getr (ci := 1) (k := 0) (N := 4) (C := RX1) (T := TX1) dX1_driest_44 lfX1_9 inX1 rfl (by decide) (hm.1) rfl ?_
        refine x_iload dX1_driest_47 rfl ?_
        refine s_iald dX1_driest_49 (hm.2.1) (hi := rfl) (hj := by omega) (hn := by decide) ?_
        refine x_istore dX1_driest_50 (by decide) rfl ?_
        refine s_iinc dX1_driest_52 rfl (by decide) rfl ?_
        refine x_goto (tgt := 8) dX1_driest_55 (by decide) ?_
        first | exact step _ _ (drF_s1 c_20).symm hl | exact step _ _ (drF_s2 c_25 (by rw [← hl c_25]; exact c_37)).symm hl | exact step _ _ (drF_t c_20 (Or.inl c_25)).symm (fun _ => by rw [nI_clamp (by omega)]) | exact step _ _ (drF_t c_20 (Or.inr (by rw [← hl c_25]; exact Int32.not_le.mp c_37))).symm (fun _ => by rw [nI_clamp (by omega)])
      · refine x_aload_n dX1_driest_28 rfl ?_
        refine s_getr (ci := 1) (k := 0) (N := 4) (C := RX1) (T := TX1) dX1_driest_29 lfX1_9 inX1 rfl (by decide) (hm.1) rfl ?_
        refine x_iload dX1_driest_32 rfl ?_
        refine s_iald dX1_driest_34 (hm.2.1) (hi := rfl) (hj := by omega) (hn := by decide) ?_
        refine x_iload dX1_driest_35 rfl ?_
        refine x_icmp_ge (tgt := 52) dX1_driest_37 (by decide) (fun c_37 => ?_) (fun c_37 => ?_)
        · refine s_iinc dX1_driest_52 rfl (by decide) rfl ?_
          refine x_goto (tgt := 8) dX1_driest_55 (by decide) ?_
          first | exact step _ _ (drF_s1 c_20).symm hl | exact step _ _ (drF_s2 c_25 (by rw [← hl c_25]; exact c_37)).symm hl | exact step _ _ (drF_t c_20 (Or.inl c_25)).symm (fun _ => by rw [nI_clamp (by omega)]) | exact step _ _ (drF_t c_20 (Or.inr (by rw [← hl c_25]; exact Int32.not_le.mp c_37))).symm (fun _ => by rw [nI_clamp (by omega)])
        · refine x_iload dX1_driest_40 rfl ?_
          refine x_istore_n dX1_driest_42 (by decide) rfl ?_
          refine x_aload_n dX1_driest_43 rfl ?_
          refine s_getr (ci := 1) (k := 0) (N := 4) (C := RX1) (T := TX1) dX1_driest_44 lfX1_9 inX1 rfl (by decide) (hm.1) rfl ?_
          refine x_iload dX1_driest_47 rfl ?_
          refine s_iald dX1_driest_49 (hm.2.1) (hi := rfl) (hj := by omega) (hn := by decide) ?_
          refine x_istore dX1_driest_50 (by decide) rfl ?_
          refine s_iinc dX1_driest_52 rfl (by decide) rfl ?_
          refine x_goto (tgt := 8) dX1_driest_55 (by decide) ?_
          first | exact step _ _ (drF_s1 c_20).symm hl | exact step _ _ (drF_s2 c_25 (by rw [← hl c_25]; exact c_37)).symm hl | exact step _ _ (drF_t c_20 (Or.inl c_25)).symm (fun _ => by rw [nI_clamp (by omega)]) | exact step _ _ (drF_t c_20 (Or.inr (by rw [← hl c_25]; exact Int32.not_le.mp c_37))).symm (fun _ => by rw [nI_clamp (by omega)])
theorem drF_congr {w w' : FN} {but : Int32} {n : Nat} (hn : n ≤ 1000) (h : ∀ k, k < n → w k = w' k) : ∀ k, k ≤ n → drF w but k = drF w' but k := by
  intro k
  induction k with
  | zero => intro _; rfl
  | succ k ih =>
    intro hk
    have e := ih (by omega)
    unfold drF
    rw [e, h k (by omega)]
    rcases drF_in w' but k with h1 | ⟨j, h1, h2⟩
    · simp [h1]
    · rw [h2, nI_clamp (by omega), h j (by omega)]
theorem drF_tr {w : FN} {but : Int32} {n : Nat} (hn : n ≤ 1000) : drF w but n = drF (tr n w) but n := drF_congr hn (fun k hk => (tr_i hk).symm) n (Nat.le_refl n)
set_option maxRecDepth 100000 in
theorem k_driest (σ : Sg) {n m : Nat} (but : Int32) (hm : xMo m) (hn : σ 3 5 = nI n) (hn8 : n ≤ 8) : Cm 1 YX1_driest [.ref m, .ref 3, .int but] σ (fun v σ' => v = some (.int (drF (tr n (σ (m + 1))) but n)) ∧ σ' = σ) := by
  refine Cm_of (by decide +kernel) (Nat.le_of_ble_eq_true rfl) ?_
  rw [← drF_tr (by omega)]
  refine x_iconst (v := -1) dX1_driest_0 (by decide) ?_
  refine x_istore_n dX1_driest_1 (by decide) rfl ?_
  refine x_iconst (v := 0) dX1_driest_2 (by decide) ?_
  refine x_istore dX1_driest_3 (by decide) rfl ?_
  refine x_iconst (v := 0) dX1_driest_5 (by decide) ?_
  refine x_istore dX1_driest_6 (by decide) rfl ?_
  exact l_driest σ hm hn hn8 n 0 (by omega) 0 (fun h => absurd rfl h)
