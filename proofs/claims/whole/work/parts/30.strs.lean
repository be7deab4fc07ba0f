/-! ===== the word constants: length and charAt ===== -/
def xwd : List (List Nat) := [[116, 111, 119, 110], [115, 108, 111, 112, 101], [99, 97, 112], [105, 110, 99, 104, 101, 115], [103, 97, 114, 100, 101, 110], [111, 114, 99, 104, 97, 114, 100], [97, 108, 108, 101, 121], [108, 97, 117, 110, 100, 114, 121]]
/-- the letter j of the word i -/
def xwc (i j : Nat) : Nat := (xwd.getD i []).getD j 0
theorem xwc_e {i j : Nat} (hi : i < 8) (hj : j < xlen.getD i 0) : (((xbyt.getD i []).getD j 0 &&& 255).toUInt32 % 65536).toInt32 = nI (xwc i j) ∧ xwc i j < 128 ∧ j < 8 := by
  have h8 : ∀ i, i < 8 → xlen.getD i 0 < 8 := by decide
  have hj8 : j < 8 := by have := h8 i hi; omega
  have : ∀ i, i < 8 → ∀ j, j < 8 → j < xlen.getD i 0 → (((xbyt.getD i []).getD j 0 &&& 255).toUInt32 % 65536).toInt32 = nI (xwc i j) ∧ xwc i j < 128 := by decide +kernel
  obtain ⟨a, b⟩ := this i hi j hj8 hj
  exact ⟨a, b, hj8⟩
theorem xlen_8 {i : Nat} (hi : i < 8) : 3 ≤ xlen.getD i 0 ∧ xlen.getD i 0 < 8 := by
  have : ∀ i, i < 8 → 3 ≤ xlen.getD i 0 ∧ xlen.getD i 0 < 8 := by decide
  exact this i hi
section XT
variable {E : xE} {pc : Nat} {L S S0 : List Value} {σ : Sg} {Q : Option Value → xM → Prop} {P P' : Option Value → Sg → Prop}
theorem s_callT {index i n d : Nat} {Y : xY} {As : List Value} (hd : decode E.1.2.1 pc = .ok (.invokevirtual index, 3)) (hM : Cm d Y (.ref (1000001 + i) :: As) σ P') (hst : S0 = As.reverse ++ .ref (1000001 + i) :: S) (hw : xMw Y n) (hlk : Cond.methodLink E.1.1.cls index Y.1 ∈ xT) (hcn : Y.1.cls = "java/lang/String") (hin : Cond.instanceMethod Y.1 ∈ xT) (hse : Cond.selects Y.1.cls Y.1 Y.1 ∈ xT) (hn : As.length = n) (hi : i < 8) (hS : S.length ≤ 4) (hE : E.2.2.1 = xB0) (hdd : d + 1 ≤ E.2.1 ∧ 8 + (Y.2.2.1 + 11) + 64 * d ≤ 64 * E.2.1) (kk : ∀ v σ', P' v σ' → Ex E (pc + 3) L (v.toList ++ S) (xMs σ') Q) : Ex E pc L S0 (xMs σ) Q := by
  subst hst
  intro p l e R s m args below meth c D dA ad h0 nb wb Qf cX K H locs ls I hl
  obtain ⟨hx, hb, hml, hown, hts, hret, hini, hfr, hlo, hce, hsl, had, hh0, hG, hZ⟩ := id cX
  obtain ⟨b1, b2, b3, b4, b5, b6, b7⟩ := xBk_of (σ := σ) (P := P') hE hdd
  obtain ⟨i1, i2, i3, i4, i5, i6, i7⟩ := id I
  have hcell : ∃ cellB : Cell, H[ad (1000001 + i)]? = some cellB ∧ cellB.vm.isStatics = false ∧ s.vm.findClass Y.1.cls = some cellB.cls := by
    obtain ⟨cell, h1, h2, h3, h4⟩ := (hG.2.2.1.1 i hi).1
    exact ⟨cell, by rw [I.2.2.1 _ (Nat.lt_of_not_le h4)]; exact h1, h2, by rw [hcn]; exact h3⟩
  have hpre : PreV s H Y.1.cls (ad (1000001 + i)) (xPc D dA ad h0 (xMs σ) (.ref (1000001 + i) :: As)) (As.map (xv ad)) := ⟨xPc_blind, hcell, xpre (As := .ref (1000001 + i) :: As) hG I⟩
  have hMe := hM l D dA ad h0 had
  have hR : d + 1 ≤ R.frames ∧ 8 + (Y.2.2.1 + 11) + 64 * d ≤ R.locals := ⟨by omega, by omega⟩
  have hf : (xMs σ).2.1 - nb + (xB0.1 - (xMs σ).2.1) ≤ R.cells ∧ (xMs σ).2.2 - wb + (xB0.2 - (xMs σ).2.2) ≤ R.slots := ⟨by omega, by omega⟩
  have hcat : 2 * (F0 m pc ls ((As.map (xv ad)).reverse ++ .ref (ad (1000001 + i)) :: S.map (xv ad))).monitorRoom + ((S.map (xv ad)).map fun v => v.category).sum ≤ 8 := by
    have := xcat_sum (ad := ad) hS
    show 2 * 0 + _ ≤ _
    omega
  refine W.eq (g2 := F0 m pc ls ((As.map (xv ad)).reverse ++ .ref (ad (1000001 + i)) :: S.map (xv ad))) (by rw [xstk]; rfl) ?_
  have go : va_Run p l e R s m args below meth c H locs ((xMs σ).2.1 - nb) ((xMs σ).2.2 - wb) (xB0.1 - (xMs σ).2.1) (xB0.2 - (xMs σ).2.2) (F0 m pc ls ((As.map (xv ad)).reverse ++ .ref (ad (1000001 + i)) :: S.map (xv ad))) (S.map (xv ad)) (xQc D dA ad h0 (xQ P') (Value.ref (ad (1000001 + i)) :: As.map (xv ad)).toArray) (fun q => h0 ≤ q) :=
    va_runV (S := ⟨hx, hb, hml, hown, hts⟩) hMe ⟨callB_of n hts (xws_good hw) rfl rfl rfl (hts _ hw.2.1) (hts _ hlk) hw.2.2 hR, hts _ hin, hts _ hse⟩ hpre rfl (by rw [List.length_map]; exact hn) hl.1 rfl hcat hd hf
  refine xrun (nb := nb) (wb := wb) (pc := pc) I go (fun v M' h => by obtain ⟨z1, z2⟩ := b7 v M' h; omega) (fun v M' H1 locs1 hq I1 => ?_)
  obtain ⟨z1, z2⟩ := b7 v M' hq
  obtain ⟨σ', rfl, hp⟩ := hq
  have K1 := kk v σ' hp p l e R s m args below meth c D dA ad h0 nb wb Qf cX K H1 locs1 ls I1 hl
  refine W.cs (by omega) (by omega) (W.eq ?_ K1)
  rw [List.map_append]
  cases v <;> rfl
theorem s_xret {x : Int32} {ty : FieldType} (hd : decode E.1.2.1 pc = .ok (.ireturn, 1)) (hr : E.1.2.2.2 = some ty) (hn : narrow ty (.int x) = .int x) (hq : P (some (.int x)) σ) : Ex E pc L [.int x] (xMs σ) (xQ P) := x_iret hd hr hn ⟨σ, rfl, hq⟩
end XT
set_option maxRecDepth 100000 in
theorem k_coder (σ : Sg) {i : Nat} (hi : i < 8) : Cm 0 YJ0_coder_7d493 [.ref (1000001 + i)] σ (fun v σ' => v = some (.int 0) ∧ σ' = σ) := by
  refine Cm_of (by decide +kernel) (Nat.le_of_ble_eq_true rfl) ?_
  refine x_getcs dJ0_coder_7d493_0 lfJ0_38 ?_
  refine x_if_eq (tgt := 13) dJ0_coder_7d493_3 (by decide) (fun c_3 => absurd c_3 (by decide)) (fun c_3 => ?_)
  refine x_aload_n dJ0_coder_7d493_6 rfl ?_
  refine x_strcod dJ0_coder_7d493_7 lfJ0_15 hi ?_
  refine x_goto (tgt := 14) dJ0_coder_7d493_10 (by decide) ?_
  exact s_xret dJ0_coder_7d493_14 rfl rfl ⟨rfl, rfl⟩
set_option maxRecDepth 100000 in
theorem k_isLatin1 (σ : Sg) {i : Nat} (hi : i < 8) : Cm 0 YJ0_isLatin1_aae02 [.ref (1000001 + i)] σ (fun v σ' => v = some (.int 1) ∧ σ' = σ) := by
  refine Cm_of (by decide +kernel) (Nat.le_of_ble_eq_true rfl) ?_
  refine x_getcs dJ0_isLatin1_aae02_0 lfJ0_38 ?_
  refine x_if_eq (tgt := 17) dJ0_isLatin1_aae02_3 (by decide) (fun c_3 => absurd c_3 (by decide)) (fun c_3 => ?_)
  refine x_aload_n dJ0_isLatin1_aae02_6 rfl ?_
  refine x_strcod dJ0_isLatin1_aae02_7 lfJ0_15 hi ?_
  refine x_if_ne (tgt := 17) dJ0_isLatin1_aae02_10 (by decide) (fun c_3 => absurd rfl c_3) (fun c_3 => ?_)
  refine x_iconst (v := 1) dJ0_isLatin1_aae02_13 (by decide) ?_
  refine x_goto (tgt := 18) dJ0_isLatin1_aae02_14 (by decide) ?_
  exact s_xret dJ0_isLatin1_aae02_18 rfl rfl ⟨rfl, rfl⟩
set_option maxRecDepth 100000 in
theorem k_length (σ : Sg) {i : Nat} (hi : i < 8) : Cm 1 YJ0_length_8abf5 [.ref (1000001 + i)] σ (fun v σ' => v = some (.int (nI (xlen.getD i 0))) ∧ σ' = σ) := by
  refine Cm_of (by decide +kernel) (Nat.le_of_ble_eq_true rfl) ?_
  refine x_aload_n dJ0_length_8abf5_0 rfl ?_
  refine x_strval dJ0_length_8abf5_1 lfJ0_9 hi ?_
  refine x_bytlen dJ0_length_8abf5_4 hi ?_
  refine x_aload_n dJ0_length_8abf5_5 rfl ?_
  refine s_callT dJ0_length_8abf5_6 (k_coder σ hi) rfl w_J0_coder_7d493 tmJ0_335 rfl im_J0_coder_7d493 se_J0_coder_7d493 rfl hi (Nat.le_of_ble_eq_true rfl) rfl (by decide) (fun v σ' h => ?_)
  obtain ⟨rfl, z⟩ := h
  have z := z.symm
  subst z
  refine x_ishr dJ0_length_8abf5_9 ?_
  rw [sb_shr0]
  exact s_xret dJ0_length_8abf5_10 rfl rfl ⟨rfl, rfl⟩
set_option maxRecDepth 100000 in
theorem k_pci (σ : Sg) {j n : Nat} (hj : j < n) (hn : n < 1000) (V : Value) (hV : V = .null ∨ V = .ref 1000200) : Cm 0 YJ3_checkIndex_8e157 [.int (nI j), .int (nI n), V] σ (fun v σ' => v = some (.int (nI j)) ∧ σ' = σ) := by
  refine Cm_of (by decide +kernel) (by rcases hV with rfl | rfl <;> exact Nat.le_of_ble_eq_true rfl) ?_
  have hx : xpad YJ3_checkIndex_8e157.2.2.1 [.int (nI j), .int (nI n), V] = [.int (nI j), .int (nI n), V] := by rcases hV with rfl | rfl <;> rfl
  rw [hx]
  refine x_iload_n dJ3_checkIndex_8e157_0 rfl ?_
  refine x_if_lt (tgt := 9) dJ3_checkIndex_8e157_1 (by decide) (fun c_1 => (absurd c_1 (nI_pos (by omega)))) (fun c_1 => ?_)
  refine x_iload_n dJ3_checkIndex_8e157_4 rfl ?_
  refine x_iload_n dJ3_checkIndex_8e157_5 rfl ?_
  refine x_icmp_lt (tgt := 16) dJ3_checkIndex_8e157_6 (by decide) (fun c_6 => ?_) (fun c_6 => (absurd (nI_lt hj (by omega)) c_6))
  refine x_iload_n dJ3_checkIndex_8e157_16 rfl ?_
  exact s_iret dJ3_checkIndex_8e157_17 rfl (⟨rfl, rfl⟩)
set_option maxRecDepth 100000 in
theorem k_ci (σ : Sg) {j n : Nat} (hj : j < n) (hn : n < 1000) : Cm 1 YJ0_checkIndex_df160 [.int (nI j), .int (nI n)] σ (fun v σ' => v = none ∧ σ' = σ) := by
  refine Cm_of (by decide +kernel) (Nat.le_of_ble_eq_true rfl) ?_
  refine x_iload_n dJ0_checkIndex_df160_0 rfl ?_
  refine x_iload_n dJ0_checkIndex_df160_1 rfl ?_
  have key : ∀ V : Value, (V = .null ∨ V = .ref 1000200) → Ex (YJ0_checkIndex_df160, 1, xB0, none) 5 [.int (nI j), .int (nI n)] [V, .int (nI n), .int (nI j)] (xMs σ) (xQ (fun v σ' => v = none ∧ σ' = σ)) := fun V hV => by
    refine s_callS dJ0_checkIndex_df160_5 (k_pci σ hj hn V hV) rfl w_J3_checkIndex_8e157 lmJ0_1059 st_J3_checkIndex_8e157 rfl (Nat.le_of_ble_eq_true rfl) rfl (by decide) (fun v σ' h => ?_)
    obtain ⟨rfl, z⟩ := h
    have z := z.symm
    subst z
    refine x_pop dJ0_checkIndex_df160_8 rfl ?_
    exact s_ret dJ0_checkIndex_df160_9 rfl ⟨rfl, rfl⟩
  exact x_getfm dJ0_checkIndex_df160_2 lfJ0_1053 (key .null (Or.inl rfl)) (key _ (Or.inr rfl))
set_option maxRecDepth 100000 in
theorem k_lcharAt (σ : Sg) {i j : Nat} (hi : i < 8) (hj : j < xlen.getD i 0) : Cm 2 YJ1_charAt_3b067 [.ref (1000101 + i), .int (nI j)] σ (fun v σ' => v = some (.int (nI (xwc i j))) ∧ σ' = σ) := by
  refine Cm_of (by decide +kernel) (Nat.le_of_ble_eq_true rfl) ?_
  obtain ⟨h1, h2, h3⟩ := xwc_e hi hj
  have h8 := xlen_8 hi
  refine x_iload_n dJ1_charAt_3b067_0 rfl ?_
  refine x_aload_n dJ1_charAt_3b067_1 rfl ?_
  refine x_bytlen dJ1_charAt_3b067_2 hi ?_
  refine s_callS dJ1_charAt_3b067_3 (k_ci σ hj (by omega)) rfl w_J0_checkIndex_df160 lmJ1_9 st_J0_checkIndex_df160 rfl (Nat.le_of_ble_eq_true rfl) rfl (by decide) (fun v σ' h => ?_)
  obtain ⟨rfl, z⟩ := h
  have z := z.symm
  subst z
  refine x_aload_n dJ1_charAt_3b067_6 rfl ?_
  refine x_iload_n dJ1_charAt_3b067_7 rfl ?_
  refine x_byt dJ1_charAt_3b067_8 hi (vp_in_nI hj (by omega)) ?_
  rw [nI_clamp (by omega)]
  refine x_sipush (v := 255) dJ1_charAt_3b067_9 (by decide) ?_
  refine x_iand dJ1_charAt_3b067_12 ?_
  refine x_i2c dJ1_charAt_3b067_13 ?_
  rw [h1]
  exact s_xret dJ1_charAt_3b067_14 rfl (pk_charN (by omega)).1 ⟨rfl, rfl⟩
set_option maxRecDepth 100000 in
theorem k_charAt (σ : Sg) {i j : Nat} (hi : i < 8) (hj : j < xlen.getD i 0) : Cm 3 YJ0_charAt_5068e [.ref (1000001 + i), .int (nI j)] σ (fun v σ' => v = some (.int (nI (xwc i j))) ∧ σ' = σ) := by
  refine Cm_of (by decide +kernel) (Nat.le_of_ble_eq_true rfl) ?_
  obtain ⟨h1, h2, h3⟩ := xwc_e hi hj
  refine x_aload_n dJ0_charAt_5068e_0 rfl ?_
  refine s_callT dJ0_charAt_5068e_1 (k_isLatin1 σ hi) rfl w_J0_isLatin1_aae02 tmJ0_492 rfl im_J0_isLatin1_aae02 se_J0_isLatin1_aae02 rfl hi (Nat.le_of_ble_eq_true rfl) rfl (by decide) (fun v σ' h => ?_)
  obtain ⟨rfl, z⟩ := h
  have z := z.symm
  subst z
  refine x_if_eq (tgt := 16) dJ0_charAt_5068e_4 (by decide) (fun c_4 => absurd c_4 (by decide)) (fun c_4 => ?_)
  refine x_aload_n dJ0_charAt_5068e_7 rfl ?_
  refine x_strval dJ0_charAt_5068e_8 lfJ0_9 hi ?_
  refine x_iload_n dJ0_charAt_5068e_11 rfl ?_
  refine s_callS dJ0_charAt_5068e_12 (k_lcharAt σ hi hj) rfl w_J1_charAt_3b067 lmJ0_495 st_J1_charAt_3b067 rfl (Nat.le_of_ble_eq_true rfl) rfl (by decide) (fun v σ' h => ?_)
  obtain ⟨rfl, z⟩ := h
  have z := z.symm
  subst z
  exact s_xret dJ0_charAt_5068e_15 rfl (pk_charN (by omega)).1 ⟨rfl, rfl⟩
