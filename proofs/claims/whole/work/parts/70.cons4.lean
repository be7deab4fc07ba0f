
/-! ===== the model made; what holds between both at the start ===== -/
def k_X9 (L : Nat) : List xA := [.inr (9, [.ref (L + 1), .int 0, .ref (L + 2), .ref (L + 3), .ref (L + 4), .ref (L + 5), .int 0, .ref (L + 6), .ref (L + 7), .ref (L + 8), .int 0, .int 0, .int 0, .int 0, .int 0, .ref (L + 9), .int 0, .int 0, .int (-1), .ref (L + 10)]), .inl (0, 160, .inl (fun _ => 0)), .inl (0, 43, .inl (fun _ => 0)), .inl (0, 43, .inl (fun _ => 0)), .inl (0, 18, .inl (fun _ => 0)), .inl (0, 144, .inl (fun _ => 0)), .inl (0, 36, .inl (fun _ => 0)), .inl (2, 2, .inl (fun _ => 0)), .inl (0, 6, .inl (fun _ => 0)), .inl (0, 8, .inl (fun _ => 0)), .inl (0, 18, .inl (fun _ => 0))]
set_option maxRecDepth 100000 in
theorem m_init0 {l0 : List xA} {L w : Nat} (h : l0.length = L) (hb : L + 11 ≤ 1000) {Q : Option Value → xM → Prop} (kk : Ex (YX9_init, 12, (L + 11, w + 498), none) 90 [.ref L, .null] [] (hL (l0 ++ k_X9 L), L + 11, w + 498) Q) : Ex (YX9_init, 12, (L + 11, w + 498), none) 0 [.ref L, .null] [] (hL (l0 ++ [.inr (9, [.null, .int 0, .null, .null, .null, .null, .int 0, .null, .null, .null, .int 0, .int 0, .int 0, .int 0, .int 0, .null, .int 0, .int 0, .int 0, .null])]), L + 1, w + 20) Q := by
  refine x_aload_n dX9_init_0 rfl ?_
  refine x_obj dX9_init_1 tmX9_1 im_objinit cd_objinit (Nat.le_of_ble_eq_true rfl) (Nat.le_of_ble_eq_true rfl) ?_
  refine x_aload_n dX9_init_4 rfl ?_
  refine x_sipush (v := nI 160) dX9_init_5 (by decide) ?_
  refine n_newa (aty := .int) (t := 0) (N := 160) dX9_init_8 (by decide) ac_int (by decide) (by decide) (by decide) h rfl ⟨by dsimp only; omega, by dsimp only; omega⟩ (by omega) ?_
  refine n_putF (k := 0) (ci := 9) (f := 0) (N := 20) (C := RX9) (T := TX9) (ty0 := tyX9) dX9_init_10 lfX9_7 inX9 tyX9_ok nmX9 rfl (by decide) rfl rfl rfl h rfl rfl rfl (Nat.le_of_ble_eq_true rfl) (by omega) ?_
  show Ex _ _ _ _ (hL (l0 ++ [.inr (9, [.ref (L + 1), .int 0, .null, .null, .null, .null, .int 0, .null, .null, .null, .int 0, .int 0, .int 0, .int 0, .int 0, .null, .int 0, .int 0, .int 0, .null]), .inl (0, 160, .inl (fun _ => 0))]), L + 2, w + 180) _
  refine x_aload_n dX9_init_13 rfl ?_
  refine x_bipush (v := nI 43) dX9_init_14 (by decide) ?_
  refine n_newa (aty := .int) (t := 0) (N := 43) dX9_init_16 (by decide) ac_int (by decide) (by decide) (by decide) h rfl ⟨by dsimp only; omega, by dsimp only; omega⟩ (by omega) ?_
  refine n_putF (k := 0) (ci := 9) (f := 2) (N := 20) (C := RX9) (T := TX9) (ty0 := tyX9) dX9_init_18 lfX9_13 inX9 tyX9_ok nmX9 rfl (by decide) rfl rfl rfl h rfl rfl rfl (Nat.le_of_ble_eq_true rfl) (by omega) ?_
  show Ex _ _ _ _ (hL (l0 ++ [.inr (9, [.ref (L + 1), .int 0, .ref (L + 2), .null, .null, .null, .int 0, .null, .null, .null, .int 0, .int 0, .int 0, .int 0, .int 0, .null, .int 0, .int 0, .int 0, .null]), .inl (0, 160, .inl (fun _ => 0)), .inl (0, 43, .inl (fun _ => 0))]), L + 3, w + 223) _
  refine x_aload_n dX9_init_21 rfl ?_
  refine x_bipush (v := nI 43) dX9_init_22 (by decide) ?_
  refine n_newa (aty := .int) (t := 0) (N := 43) dX9_init_24 (by decide) ac_int (by decide) (by decide) (by decide) h rfl ⟨by dsimp only; omega, by dsimp only; omega⟩ (by omega) ?_
  refine n_putF (k := 0) (ci := 9) (f := 3) (N := 20) (C := RX9) (T := TX9) (ty0 := tyX9) dX9_init_26 lfX9_16 inX9 tyX9_ok nmX9 rfl (by decide) rfl rfl rfl h rfl rfl rfl (Nat.le_of_ble_eq_true rfl) (by omega) ?_
  show Ex _ _ _ _ (hL (l0 ++ [.inr (9, [.ref (L + 1), .int 0, .ref (L + 2), .ref (L + 3), .null, .null, .int 0, .null, .null, .null, .int 0, .int 0, .int 0, .int 0, .int 0, .null, .int 0, .int 0, .int 0, .null]), .inl (0, 160, .inl (fun _ => 0)), .inl (0, 43, .inl (fun _ => 0)), .inl (0, 43, .inl (fun _ => 0))]), L + 4, w + 266) _
  refine x_aload_n dX9_init_29 rfl ?_
  refine x_bipush (v := nI 18) dX9_init_30 (by decide) ?_
  refine n_newa (aty := .int) (t := 0) (N := 18) dX9_init_32 (by decide) ac_int (by decide) (by decide) (by decide) h rfl ⟨by dsimp only; omega, by dsimp only; omega⟩ (by omega) ?_
  refine n_putF (k := 0) (ci := 9) (f := 4) (N := 20) (C := RX9) (T := TX9) (ty0 := tyX9) dX9_init_34 lfX9_19 inX9 tyX9_ok nmX9 rfl (by decide) rfl rfl rfl h rfl rfl rfl (Nat.le_of_ble_eq_true rfl) (by omega) ?_
  show Ex _ _ _ _ (hL (l0 ++ [.inr (9, [.ref (L + 1), .int 0, .ref (L + 2), .ref (L + 3), .ref (L + 4), .null, .int 0, .null, .null, .null, .int 0, .int 0, .int 0, .int 0, .int 0, .null, .int 0, .int 0, .int 0, .null]), .inl (0, 160, .inl (fun _ => 0)), .inl (0, 43, .inl (fun _ => 0)), .inl (0, 43, .inl (fun _ => 0)), .inl (0, 18, .inl (fun _ => 0))]), L + 5, w + 284) _
  refine x_aload_n dX9_init_37 rfl ?_
  refine x_sipush (v := nI 144) dX9_init_38 (by decide) ?_
  refine n_newa (aty := .int) (t := 0) (N := 144) dX9_init_41 (by decide) ac_int (by decide) (by decide) (by decide) h rfl ⟨by dsimp only; omega, by dsimp only; omega⟩ (by omega) ?_
  refine n_putF (k := 0) (ci := 9) (f := 5) (N := 20) (C := RX9) (T := TX9) (ty0 := tyX9) dX9_init_43 lfX9_22 inX9 tyX9_ok nmX9 rfl (by decide) rfl rfl rfl h rfl rfl rfl (Nat.le_of_ble_eq_true rfl) (by omega) ?_
  show Ex _ _ _ _ (hL (l0 ++ [.inr (9, [.ref (L + 1), .int 0, .ref (L + 2), .ref (L + 3), .ref (L + 4), .ref (L + 5), .int 0, .null, .null, .null, .int 0, .int 0, .int 0, .int 0, .int 0, .null, .int 0, .int 0, .int 0, .null]), .inl (0, 160, .inl (fun _ => 0)), .inl (0, 43, .inl (fun _ => 0)), .inl (0, 43, .inl (fun _ => 0)), .inl (0, 18, .inl (fun _ => 0)), .inl (0, 144, .inl (fun _ => 0))]), L + 6, w + 428) _
  refine x_aload_n dX9_init_46 rfl ?_
  refine x_bipush (v := nI 36) dX9_init_47 (by decide) ?_
  refine n_newa (aty := .int) (t := 0) (N := 36) dX9_init_49 (by decide) ac_int (by decide) (by decide) (by decide) h rfl ⟨by dsimp only; omega, by dsimp only; omega⟩ (by omega) ?_
  refine n_putF (k := 0) (ci := 9) (f := 7) (N := 20) (C := RX9) (T := TX9) (ty0 := tyX9) dX9_init_51 lfX9_25 inX9 tyX9_ok nmX9 rfl (by decide) rfl rfl rfl h rfl rfl rfl (Nat.le_of_ble_eq_true rfl) (by omega) ?_
  show Ex _ _ _ _ (hL (l0 ++ [.inr (9, [.ref (L + 1), .int 0, .ref (L + 2), .ref (L + 3), .ref (L + 4), .ref (L + 5), .int 0, .ref (L + 6), .null, .null, .int 0, .int 0, .int 0, .int 0, .int 0, .null, .int 0, .int 0, .int 0, .null]), .inl (0, 160, .inl (fun _ => 0)), .inl (0, 43, .inl (fun _ => 0)), .inl (0, 43, .inl (fun _ => 0)), .inl (0, 18, .inl (fun _ => 0)), .inl (0, 144, .inl (fun _ => 0)), .inl (0, 36, .inl (fun _ => 0))]), L + 7, w + 464) _
  refine x_aload_n dX9_init_54 rfl ?_
  refine x_iconst (v := nI 2) dX9_init_55 (by decide) ?_
  refine n_newa (aty := .boolean) (t := 2) (N := 2) dX9_init_56 (by decide) ac_boolean (by decide) (by decide) (by decide) h rfl ⟨by dsimp only; omega, by dsimp only; omega⟩ (by omega) ?_
  refine n_putF (k := 0) (ci := 9) (f := 8) (N := 20) (C := RX9) (T := TX9) (ty0 := tyX9) dX9_init_58 lfX9_28 inX9 tyX9_ok nmX9 rfl (by decide) rfl rfl rfl h rfl rfl rfl (Nat.le_of_ble_eq_true rfl) (by omega) ?_
  show Ex _ _ _ _ (hL (l0 ++ [.inr (9, [.ref (L + 1), .int 0, .ref (L + 2), .ref (L + 3), .ref (L + 4), .ref (L + 5), .int 0, .ref (L + 6), .ref (L + 7), .null, .int 0, .int 0, .int 0, .int 0, .int 0, .null, .int 0, .int 0, .int 0, .null]), .inl (0, 160, .inl (fun _ => 0)), .inl (0, 43, .inl (fun _ => 0)), .inl (0, 43, .inl (fun _ => 0)), .inl (0, 18, .inl (fun _ => 0)), .inl (0, 144, .inl (fun _ => 0)), .inl (0, 36, .inl (fun _ => 0)), .inl (2, 2, .inl (fun _ => 0))]), L + 8, w + 466) _
  refine x_aload_n dX9_init_61 rfl ?_
  refine x_bipush (v := nI 6) dX9_init_62 (by decide) ?_
  refine n_newa (aty := .int) (t := 0) (N := 6) dX9_init_64 (by decide) ac_int (by decide) (by decide) (by decide) h rfl ⟨by dsimp only; omega, by dsimp only; omega⟩ (by omega) ?_
  refine n_putF (k := 0) (ci := 9) (f := 9) (N := 20) (C := RX9) (T := TX9) (ty0 := tyX9) dX9_init_66 lfX9_32 inX9 tyX9_ok nmX9 rfl (by decide) rfl rfl rfl h rfl rfl rfl (Nat.le_of_ble_eq_true rfl) (by omega) ?_
  show Ex _ _ _ _ (hL (l0 ++ [.inr (9, [.ref (L + 1), .int 0, .ref (L + 2), .ref (L + 3), .ref (L + 4), .ref (L + 5), .int 0, .ref (L + 6), .ref (L + 7), .ref (L + 8), .int 0, .int 0, .int 0, .int 0, .int 0, .null, .int 0, .int 0, .int 0, .null]), .inl (0, 160, .inl (fun _ => 0)), .inl (0, 43, .inl (fun _ => 0)), .inl (0, 43, .inl (fun _ => 0)), .inl (0, 18, .inl (fun _ => 0)), .inl (0, 144, .inl (fun _ => 0)), .inl (0, 36, .inl (fun _ => 0)), .inl (2, 2, .inl (fun _ => 0)), .inl (0, 6, .inl (fun _ => 0))]), L + 9, w + 472) _
  refine x_aload_n dX9_init_69 rfl ?_
  refine x_bipush (v := nI 8) dX9_init_70 (by decide) ?_
  refine n_newa (aty := .int) (t := 0) (N := 8) dX9_init_72 (by decide) ac_int (by decide) (by decide) (by decide) h rfl ⟨by dsimp only; omega, by dsimp only; omega⟩ (by omega) ?_
  refine n_putF (k := 0) (ci := 9) (f := 15) (N := 20) (C := RX9) (T := TX9) (ty0 := tyX9) dX9_init_74 lfX9_35 inX9 tyX9_ok nmX9 rfl (by decide) rfl rfl rfl h rfl rfl rfl (Nat.le_of_ble_eq_true rfl) (by omega) ?_
  show Ex _ _ _ _ (hL (l0 ++ [.inr (9, [.ref (L + 1), .int 0, .ref (L + 2), .ref (L + 3), .ref (L + 4), .ref (L + 5), .int 0, .ref (L + 6), .ref (L + 7), .ref (L + 8), .int 0, .int 0, .int 0, .int 0, .int 0, .ref (L + 9), .int 0, .int 0, .int 0, .null]), .inl (0, 160, .inl (fun _ => 0)), .inl (0, 43, .inl (fun _ => 0)), .inl (0, 43, .inl (fun _ => 0)), .inl (0, 18, .inl (fun _ => 0)), .inl (0, 144, .inl (fun _ => 0)), .inl (0, 36, .inl (fun _ => 0)), .inl (2, 2, .inl (fun _ => 0)), .inl (0, 6, .inl (fun _ => 0)), .inl (0, 8, .inl (fun _ => 0))]), L + 10, w + 480) _
  refine x_aload_n dX9_init_77 rfl ?_
  refine x_iconst (v := -1) dX9_init_78 (by decide) ?_
  refine n_put (k := 0) (ci := 9) (f := 18) (N := 20) (C := RX9) (T := TX9) (ty0 := tyX9) dX9_init_79 lfX9_38 inX9 tyX9_ok nmX9 rfl (by decide) rfl h rfl rfl rfl (Nat.le_of_ble_eq_true rfl) (by omega) ?_
  show Ex _ _ _ _ (hL (l0 ++ [.inr (9, [.ref (L + 1), .int 0, .ref (L + 2), .ref (L + 3), .ref (L + 4), .ref (L + 5), .int 0, .ref (L + 6), .ref (L + 7), .ref (L + 8), .int 0, .int 0, .int 0, .int 0, .int 0, .ref (L + 9), .int 0, .int 0, .int (-1), .null]), .inl (0, 160, .inl (fun _ => 0)), .inl (0, 43, .inl (fun _ => 0)), .inl (0, 43, .inl (fun _ => 0)), .inl (0, 18, .inl (fun _ => 0)), .inl (0, 144, .inl (fun _ => 0)), .inl (0, 36, .inl (fun _ => 0)), .inl (2, 2, .inl (fun _ => 0)), .inl (0, 6, .inl (fun _ => 0)), .inl (0, 8, .inl (fun _ => 0))]), L + 10, w + 480) _
  refine x_aload_n dX9_init_82 rfl ?_
  refine x_bipush (v := nI 18) dX9_init_83 (by decide) ?_
  refine n_newa (aty := .int) (t := 0) (N := 18) dX9_init_85 (by decide) ac_int (by decide) (by decide) (by decide) h rfl ⟨by dsimp only; omega, by dsimp only; omega⟩ (by omega) ?_
  refine n_putF (k := 0) (ci := 9) (f := 19) (N := 20) (C := RX9) (T := TX9) (ty0 := tyX9) dX9_init_87 lfX9_42 inX9 tyX9_ok nmX9 rfl (by decide) rfl rfl rfl h rfl rfl rfl (Nat.le_of_ble_eq_true rfl) (by omega) ?_
  show Ex _ _ _ _ (hL (l0 ++ [.inr (9, [.ref (L + 1), .int 0, .ref (L + 2), .ref (L + 3), .ref (L + 4), .ref (L + 5), .int 0, .ref (L + 6), .ref (L + 7), .ref (L + 8), .int 0, .int 0, .int 0, .int 0, .int 0, .ref (L + 9), .int 0, .int 0, .int (-1), .ref (L + 10)]), .inl (0, 160, .inl (fun _ => 0)), .inl (0, 43, .inl (fun _ => 0)), .inl (0, 43, .inl (fun _ => 0)), .inl (0, 18, .inl (fun _ => 0)), .inl (0, 144, .inl (fun _ => 0)), .inl (0, 36, .inl (fun _ => 0)), .inl (2, 2, .inl (fun _ => 0)), .inl (0, 6, .inl (fun _ => 0)), .inl (0, 8, .inl (fun _ => 0)), .inl (0, 18, .inl (fun _ => 0))]), L + 11, w + 498) _
  exact kk
abbrev zF9 : FN := fun _ => 0
def sgl : List FN := [zF9, zF9, zF9, (fun k => if k = 6 then 30 else if k = 7 then 8 else 0), zF9, zF9, zF9, zF9, zF9, (fun k => if k = 6 then 30 else if k = 7 then 8 else 0), zF9, zF9, zF9, zF9, zF9, (fun k => if k = 2 then -1 else 0), zF9, zF9, (fun k => if k = 2 then -1 else 0), zF9, zF9, zF9, zF9, (fun k => if k = 2 then -1 else 0), zF9, zF9, (fun k => if k = 2 then -1 else 0), zF9, zF9, (fun k => if k = 2 then -1 else 0), zF9, zF9, (fun k => if k = 2 then -1 else 0), zF9, zF9, (fun k => if k = 2 then -1 else 0), zF9, zF9, (fun k => if k = 2 then -1 else 0), zF9, zF9, (fun k => if k = 2 then -1 else 0), zF9, zF9, (fun k => if k = 2 then -1 else 0), zF9, zF9, zF9, zF9, zF9, (fun k => if k = 2 then -1 else 0), zF9, zF9, (fun k => if k = 2 then -1 else 0), zF9, zF9, zF9, zF9, zF9, zF9, zF9, zF9, (fun k => if k = 4 then -1 else 0), zF9, zF9, zF9, (fun k => if k = 2 then -1 else 0), zF9, zF9, (fun k => if k = 2 then -1 else 0), zF9, zF9, (fun k => if k = 2 then -1 else 0), zF9, zF9, (fun k => if k = 2 then -1 else 0), zF9, zF9, (fun k => if k = 2 then -1 else 0), zF9, zF9, (fun k => if k = 18 then -1 else 0), zF9, zF9, zF9, zF9, zF9, zF9, zF9, zF9, zF9, zF9]
def σ9 : Sg := fun c => sgl.getD c zF9
set_option maxRecDepth 100000 in
theorem xms9_at : ∀ i, i < 92 → hL (k_X8 0 ++ k_X9 81) i = xH σ9 i := fun i hi => match i, hi with
  | 0, _ => rfl
  | 1, _ => rfl
  | 2, _ => rfl
  | 3, _ => rfl
  | 4, _ => rfl
  | 5, _ => rfl
  | 6, _ => rfl
  | 7, _ => rfl
  | 8, _ => rfl
  | 9, _ => rfl
  | 10, _ => rfl
  | 11, _ => rfl
  | 12, _ => rfl
  | 13, _ => rfl
  | 14, _ => rfl
  | 15, _ => rfl
  | 16, _ => rfl
  | 17, _ => rfl
  | 18, _ => rfl
  | 19, _ => rfl
  | 20, _ => rfl
  | 21, _ => rfl
  | 22, _ => rfl
  | 23, _ => rfl
  | 24, _ => rfl
  | 25, _ => rfl
  | 26, _ => rfl
  | 27, _ => rfl
  | 28, _ => rfl
  | 29, _ => rfl
  | 30, _ => rfl
  | 31, _ => rfl
  | 32, _ => rfl
  | 33, _ => rfl
  | 34, _ => rfl
  | 35, _ => rfl
  | 36, _ => rfl
  | 37, _ => rfl
  | 38, _ => rfl
  | 39, _ => rfl
  | 40, _ => rfl
  | 41, _ => rfl
  | 42, _ => rfl
  | 43, _ => rfl
  | 44, _ => rfl
  | 45, _ => rfl
  | 46, _ => rfl
  | 47, _ => rfl
  | 48, _ => rfl
  | 49, _ => rfl
  | 50, _ => rfl
  | 51, _ => rfl
  | 52, _ => rfl
  | 53, _ => rfl
  | 54, _ => rfl
  | 55, _ => rfl
  | 56, _ => rfl
  | 57, _ => rfl
  | 58, _ => rfl
  | 59, _ => rfl
  | 60, _ => rfl
  | 61, _ => rfl
  | 62, _ => rfl
  | 63, _ => rfl
  | 64, _ => rfl
  | 65, _ => rfl
  | 66, _ => rfl
  | 67, _ => rfl
  | 68, _ => rfl
  | 69, _ => rfl
  | 70, _ => rfl
  | 71, _ => rfl
  | 72, _ => rfl
  | 73, _ => rfl
  | 74, _ => rfl
  | 75, _ => rfl
  | 76, _ => rfl
  | 77, _ => rfl
  | 78, _ => rfl
  | 79, _ => rfl
  | 80, _ => rfl
  | 81, _ => rfl
  | 82, _ => rfl
  | 83, _ => rfl
  | 84, _ => rfl
  | 85, _ => rfl
  | 86, _ => rfl
  | 87, _ => rfl
  | 88, _ => rfl
  | 89, _ => rfl
  | 90, _ => rfl
  | 91, _ => rfl
  | i + 92, hi => absurd hi (by omega)
set_option maxRecDepth 100000 in
theorem xms9 : hL (k_X8 0 ++ k_X9 81) = xH σ9 := by
  funext i
  by_cases h : i < 92
  · exact xms9_at i h
  · have e1 : (k_X8 0 ++ k_X9 81)[i]? = none := List.getElem?_eq_none (show 92 ≤ i by omega)
    have e2 : xShp[i]? = none := List.getElem?_eq_none (show 92 ≤ i by omega)
    have e3 : sgl[i]? = none := List.getElem?_eq_none (show 92 ≤ i by omega)
    unfold hL xH σ9
    rw [List.getD_eq_getElem?_getD, List.getD_eq_getElem?_getD, e1, e2, e3]
    rfl
