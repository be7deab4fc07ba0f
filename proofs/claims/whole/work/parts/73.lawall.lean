
/-! ===== the law from its first row ===== -/
set_option maxRecDepth 100000 in
theorem law_all {L : Nat} {xs : Nat → Int32} (h2 : L ≤ 2048) : Ex (xEL L xs) 0 [.ref 1000000, .null, .null, .null] [] (hL [], 0, 0) QL := by
  show Ex (xEL L xs) 0 _ _ (hL ([] ++ []), 0, 0) QL
  refine n_new (l0 := []) (r := []) (L := 0) (m := 0) (w := 0) (ci := 8) (N := 10) (fs := [.null, .null, .null, .null, .null, .null, .null, .null, .null, .null]) (C := RX8) (T := TX8) (ty := tyX8) dL_law_0 lcL_7 itX8 iiX8 inX8 tyX8_ok rfl df8 rfl rfl ⟨Nat.le_of_ble_eq_true rfl, Nat.le_of_ble_eq_true rfl⟩ (by decide) ?_
  refine x_dup dL_law_3 rfl ?_
  refine n_callI (l0 := []) (r0 := []) (b := 0) (w := 10) (mL := 1) dL_law_4 (i_X8 (l0 := [] ++ []) (L := 0) (w := 10) rfl (by decide)) w_X8_init lmL_9 im_X8_init rfl (Nat.le_of_ble_eq_true rfl) ⟨Nat.le_of_ble_eq_true rfl, Nat.le_of_ble_eq_true rfl, Nat.le_of_ble_eq_true rfl, Nat.le_of_ble_eq_true rfl, Nat.le_of_ble_eq_true rfl, Nat.le_of_ble_eq_true rfl⟩ ?_
  show Ex (xEL L xs) 7 [.ref 1000000, .null, .null, .null] [.ref 0] (hL ([] ++ k_X8 0), 81, 680) QL
  refine x_astore_n dL_law_7 (Nat.le_of_ble_eq_true rfl) rfl ?_
  refine n_new (l0 := []) (r := k_X8 0) (L := 0) (m := 81) (w := 680) (ci := 9) (N := 20) (fs := [.null, .int 0, .null, .null, .null, .null, .int 0, .null, .null, .null, .int 0, .int 0, .int 0, .int 0, .int 0, .null, .int 0, .int 0, .int 0, .null]) (C := RX9) (T := TX9) (ty := tyX9) dL_law_8 lcL_10 itX9 iiX9 inX9 tyX9_ok rfl df9 rfl rfl ⟨Nat.le_of_ble_eq_true rfl, Nat.le_of_ble_eq_true rfl⟩ (by decide) ?_
  refine x_dup dL_law_11 rfl ?_
  show Ex (xEL L xs) 12 [.ref 1000000, .ref 0, .null, .null] ([].reverse ++ .ref 81 :: [.ref 81]) (hL (k_X8 0 ++ [.inr (9, [.null, .int 0, .null, .null, .null, .null, .int 0, .null, .null, .null, .int 0, .int 0, .int 0, .int 0, .int 0, .null, .int 0, .int 0, .int 0, .null])]), 82, 700) QL
  refine x_callI (n := 0) (b := 81) (d := 12) (mL := 2) (As := []) dL_law_12 i_X9 w_X9_init lmL_12 im_X9_init rfl rfl (Nat.le_of_ble_eq_true rfl) ⟨Nat.le_of_ble_eq_true rfl, Nat.le_of_ble_eq_true rfl, Nat.le_of_ble_eq_true rfl, Nat.le_of_ble_eq_true rfl, Nat.le_of_ble_eq_true rfl, Nat.le_of_ble_eq_true rfl, fun v M' hh => ?_⟩ (fun v M' hh => ?_)
  · obtain ⟨-, σ, rfl, -⟩ := hh
    exact ⟨rfl, rfl⟩
  · obtain ⟨rfl, σ, rfl, hI⟩ := hh
    refine x_astore_n dL_law_15 (Nat.le_of_ble_eq_true rfl) rfl ?_
    refine x_iconst (v := nI 0) dL_law_16 (by decide) ?_
    refine x_istore_n dL_law_17 (Nat.le_of_ble_eq_true rfl) rfl ?_
    exact law_loop h2 600 0 0 σ hI (by omega) (by omega)
