/-! ===== what holds between the class and the model, call for call ===== -/
/-- the texts: len letters c, in both -/
def IvT (σ : Sg) : Prop := ∃ len c, TX σ len c ∧ TM σ len c
/-- plan and moment now -/
def IvP (n : Nat) (σ : Sg) : Prop := σ 3 5 = nI n ∧ σ 83 0 = nI n ∧ plC n σ = plM n σ 83 ∧ Wp (plM n σ 83)
def IvO (n : Nat) (σ : Sg) : Prop := moC n σ 15 = moS n σ ∧ Wm n (moS n σ) ∧ ∃ d, d ≤ 999 ∧ (moS n σ).2.2.2 = nI d
/-- a moment that may come again -/
def Wd (n : Nat) (o : MO) : Prop := Wm n o ∧ ∃ d, d ≤ 999 ∧ o.2.2.2 = nI d
/-- what can be undone -/
def IvU (n : Nat) (σ : Sg) : Prop := ∃ nx sz, nx < 8 ∧ sz ≤ 8 ∧ σ 21 1 = nI nx ∧ σ 21 2 = nI sz ∧ σ 81 6 = nI sz ∧ ∀ j, j < sz → moC n σ (23 + 3 * ((nx + 7 - j) % 8)) = moM n σ 86 (18 * (sz - 1 - j)) ∧ Wd n (moM n σ 86 (18 * (sz - 1 - j)))
/-- what is kept -/
def IvK (n : Nat) (σ : Sg) : Prop := ∀ k, k < 2 → (σ 49 k = 0 ∧ σ 88 k = 0) ∨ (¬ σ 49 k = 0 ∧ ¬ σ 88 k = 0 ∧ moC n σ (50 + 3 * k) = moM n σ 87 (18 * k) ∧ Wd n (moM n σ 87 (18 * k)))
/-- what was seen -/
def IvN (σ : Sg) : Prop := ∃ q, q ≤ 6 ∧ σ 56 2 = nI q ∧ σ 81 10 = nI q ∧ NT q (σ 89) (σ 57) (σ 58)
def Inv (n : Nat) (σ : Sg) : Prop := IvT σ ∧ IvP n σ ∧ IvO n σ ∧ IvU n σ ∧ IvK n σ ∧ IvN σ ∧ NB σ
/-- kept, where these cells are as they were -/
theorem IvT_fr {σ σ' : Sg} (h : IvT σ) (h1 : σ' 1 1 = σ 1 1) (h2 : σ' 2 = σ 2) (h81 : σ' 81 1 = σ 81 1) (h82 : σ' 82 = σ 82) : IvT σ' := by
  obtain ⟨len, c, a, b⟩ := h
  exact ⟨len, c, ⟨by rw [h1]; exact a.1, a.2.1, fun i hi => by rw [h2]; exact a.2.2 i hi⟩, ⟨by rw [h81]; exact b.1, b.2.1, fun i hi => by rw [h82]; exact b.2.2 i hi⟩⟩
theorem IvP_fr {n : Nat} {σ σ' : Sg} (h : IvP n σ) (h1 : ∀ c, 3 ≤ c → c ≤ 8 → σ' c = σ c) (h83 : σ' 83 = σ 83) : IvP n σ' := by
  obtain ⟨a, b, c, d⟩ := h
  have e : plC n σ' = plC n σ := plC_fr h1
  have e2 : plM n σ' 83 = plM n σ 83 := plM_fr h83
  exact ⟨by rw [h1 3 (by decide) (by decide)]; exact a, by rw [h83]; exact b, by rw [e, e2]; exact c, by rw [e2]; exact d⟩
theorem moM_fr {n c o : Nat} {σ σ' : Sg} (h : σ' c = σ c) : moM n σ' c o = moM n σ c o := by unfold moM; rw [h]
theorem IvU_fr {n : Nat} {σ σ' : Sg} (h : IvU n σ) (h1 : ∀ c, 21 ≤ c → c ≤ 46 → σ' c = σ c) (h6 : σ' 81 6 = σ 81 6) (h86 : σ' 86 = σ 86) : IvU n σ' := by
  obtain ⟨nx, sz, a, b, c, d, e, f⟩ := h
  refine ⟨nx, sz, a, b, by rw [h1 21 (by decide) (by decide)]; exact c, by rw [h1 21 (by decide) (by decide)]; exact d, by rw [h6]; exact e, fun j hj => ?_⟩
  have hm : (nx + 7 - j) % 8 < 8 := Nat.mod_lt _ (by decide)
  rw [moM_fr h86, moC_fr (σ' := σ') (σ := σ) (fun c x y => h1 c (by omega) (by omega))]
  exact f j hj
theorem IvK_fr {n : Nat} {σ σ' : Sg} (h : IvK n σ) (h1 : ∀ c, 49 ≤ c → c ≤ 55 → σ' c = σ c) (h87 : σ' 87 = σ 87) (h88 : σ' 88 = σ 88) : IvK n σ' := by
  intro k hk
  rw [h1 49 (by decide) (by decide), h88, moM_fr h87, moC_fr (σ' := σ') (σ := σ) (fun c x y => h1 c (by omega) (by omega))]
  exact h k hk
theorem IvN_fr {σ σ' : Sg} (h : IvN σ) (h1 : ∀ c, 56 ≤ c → c ≤ 58 → σ' c = σ c) (h10 : σ' 81 10 = σ 81 10) (h89 : σ' 89 = σ 89) : IvN σ' := by
  obtain ⟨q, a, b, c, d⟩ := h
  exact ⟨q, a, by rw [h1 56 (by decide) (by decide)]; exact b, by rw [h10]; exact c, by rw [h89, h1 57 (by decide) (by decide), h1 58 (by decide) (by decide)]; exact d⟩
theorem NB_fr {σ σ' : Sg} (h : NB σ) (h1 : ∀ i, 16 ≤ i → σ' 81 i = σ 81 i) : NB σ' := by
  unfold NB
  rw [h1 16 (by decide), h1 17 (by decide), h1 18 (by decide)]
  exact h
/-- asking both: nothing that holds between them is touched -/
theorem Inv_ask {n : Nat} {σ σ1 σ2 : Sg} (h : Inv n σ) (h1 : frQ σ σ1) (h2 : fM σ1 σ2) : Inv n σ2 := by
  obtain ⟨iT, iP, iO, iU, iK, iN, iB⟩ := h
  have lo : ∀ c, c < 18 ∨ (21 ≤ c ∧ c ≤ 58) → σ2 c = σ c := fun c hc => by
    rw [h2.2.2 c (by omega) (by omega) (by omega) (by omega), h1 c (by omega)]
  have hi : ∀ c, 82 ≤ c → c ≠ 85 → c ≠ 90 → c ≠ 91 → σ2 c = σ c := fun c a b d e => by
    rw [h2.2.2 c (by omega) b d e, h1 c (by omega)]
  have h81 : ∀ i, σ2 81 i = σ 81 i := fun i => by rw [h2.2.1 i, h1 81 (by omega)]
  have h85 : ∀ i, i < 18 → σ2 85 i = σ 85 i := fun i hi => by rw [h2.1 i hi, h1 85 (by omega)]
  have hn8 : n ≤ 8 := iP.2.2.2.1
  have em : moS n σ2 = moS n σ := moS_fr h85 hn8
  refine ⟨IvT_fr iT (by rw [lo 1 (by omega)]) (lo 2 (by omega)) (h81 1) (hi 82 (by omega) (by omega) (by omega) (by omega)), IvP_fr iP (fun c a b => lo c (by omega)) (hi 83 (by omega) (by omega) (by omega) (by omega)), ?_, IvU_fr iU (fun c a b => lo c (by omega)) (h81 6) (hi 86 (by omega) (by omega) (by omega) (by omega)), IvK_fr iK (fun c a b => lo c (by omega)) (hi 87 (by omega) (by omega) (by omega) (by omega)) (hi 88 (by omega) (by omega) (by omega) (by omega)), IvN_fr iN (fun c a b => lo c (by omega)) (h81 10) (hi 89 (by omega) (by omega) (by omega) (by omega)), NB_fr iB (fun i _ => h81 i)⟩
  unfold IvO
  rw [em, moC_fr (σ' := σ2) (σ := σ) (fun c a b => lo c (by omega))]
  exact iO
