
/-! ===== constructors that make others ===== -/
def k_X2 (L : Nat) : List xA := [.inr (2, [.ref (L + 1), .int 0, .int 0]),
    .inl (3, 8, .inr (.inr (.inr (.inr (fun j => ([L + 2, L + 5, L + 8, L + 11, L + 14, L + 17, L + 20, L + 23] : List Nat)[j]?))))),
    .inr (1, [.ref (L + 3), .ref (L + 4), .int (-1), .int 0]),
    .inl (0, 8, .inl (fun _ => 0)),
    .inl (0, 8, .inl (fun _ => 0)),
    .inr (1, [.ref (L + 6), .ref (L + 7), .int (-1), .int 0]),
    .inl (0, 8, .inl (fun _ => 0)),
    .inl (0, 8, .inl (fun _ => 0)),
    .inr (1, [.ref (L + 9), .ref (L + 10), .int (-1), .int 0]),
    .inl (0, 8, .inl (fun _ => 0)),
    .inl (0, 8, .inl (fun _ => 0)),
    .inr (1, [.ref (L + 12), .ref (L + 13), .int (-1), .int 0]),
    .inl (0, 8, .inl (fun _ => 0)),
    .inl (0, 8, .inl (fun _ => 0)),
    .inr (1, [.ref (L + 15), .ref (L + 16), .int (-1), .int 0]),
    .inl (0, 8, .inl (fun _ => 0)),
    .inl (0, 8, .inl (fun _ => 0)),
    .inr (1, [.ref (L + 18), .ref (L + 19), .int (-1), .int 0]),
    .inl (0, 8, .inl (fun _ => 0)),
    .inl (0, 8, .inl (fun _ => 0)),
    .inr (1, [.ref (L + 21), .ref (L + 22), .int (-1), .int 0]),
    .inl (0, 8, .inl (fun _ => 0)),
    .inl (0, 8, .inl (fun _ => 0)),
    .inr (1, [.ref (L + 24), .ref (L + 25), .int (-1), .int 0]),
    .inl (0, 8, .inl (fun _ => 0)),
    .inl (0, 8, .inl (fun _ => 0))]
set_option maxRecDepth 100000 in
theorem i_X2 {l0 : List xA} {L w : Nat} (h : l0.length = L) (hb : L + 26 ≤ 1000) : ExM 2 YX2_init [.ref L] (hL (l0 ++ [.inr (2, [.null, .int 0, .int 0])]), L + 1, w) (L + 26, w + 168) (fun v M' => v = none ∧ M' = (hL (l0 ++ k_X2 L), L + 26, w + 168)) := by
  refine ExM_of (by decide +kernel) (Nat.le_of_ble_eq_true rfl) (by show L + 1 ≤ 1000000; omega) (fun v M' hh => by obtain ⟨-, rfl⟩ := hh; exact ⟨Nat.le_refl _, Nat.le_refl _⟩) ?_
  refine x_aload_n dX2_init_0 rfl ?_
  refine x_obj dX2_init_1 tmX2_3 im_objinit cd_objinit (Nat.le_of_ble_eq_true rfl) (Nat.le_of_ble_eq_true rfl) ?_
  refine x_aload_n dX2_init_4 rfl ?_
  refine x_bipush (v := nI 8) dX2_init_5 (by decide) ?_
  refine n_anew (N := 8) dX2_init_7 lcX2_9 (by decide) (by decide) (by decide) h rfl ⟨by dsimp only; omega, by dsimp only; omega⟩ (by omega) ?_
  refine n_putF (k := 0) (ci := 2) (f := 0) (N := 3) (C := RX2) (T := TX2) (ty0 := tyX2) dX2_init_10 lfX2_11 inX2 tyX2_ok nmX2 rfl (by decide) rfl rfl rfl h rfl rfl rfl (Nat.le_of_ble_eq_true rfl) (by omega) ?_
  show Ex _ _ _ _ (hL (l0 ++ [.inr (2, [.ref (L + 1), .int 0, .int 0]), .inl (3, 8, .inr (.inr (.inr (.inr (fun j => ([] : List Nat)[j]?)))))]), L + 2, w + 8) _
  refine x_aload_n dX2_init_13 rfl ?_
  refine x_iconst (v := nI 0) dX2_init_14 (by decide) ?_
  refine n_put (k := 0) (ci := 2) (f := 1) (N := 3) (C := RX2) (T := TX2) (ty0 := tyX2) dX2_init_15 lfX2_17 inX2 tyX2_ok nmX2 rfl (by decide) rfl h rfl rfl rfl (Nat.le_of_ble_eq_true rfl) (by omega) ?_
  show Ex _ _ _ _ (hL (l0 ++ [.inr (2, [.ref (L + 1), .int 0, .int 0]), .inl (3, 8, .inr (.inr (.inr (.inr (fun j => ([] : List Nat)[j]?)))))]), L + 2, w + 8) _
  refine x_aload_n dX2_init_18 rfl ?_
  refine x_iconst (v := nI 0) dX2_init_19 (by decide) ?_
  refine n_put (k := 0) (ci := 2) (f := 2) (N := 3) (C := RX2) (T := TX2) (ty0 := tyX2) dX2_init_20 lfX2_21 inX2 tyX2_ok nmX2 rfl (by decide) rfl h rfl rfl rfl (Nat.le_of_ble_eq_true rfl) (by omega) ?_
  show Ex _ _ _ _ (hL (l0 ++ [.inr (2, [.ref (L + 1), .int 0, .int 0]), .inl (3, 8, .inr (.inr (.inr (.inr (fun j => ([] : List Nat)[j]?)))))]), L + 2, w + 8) _
  refine x_iconst (v := nI 0) dX2_init_23 (by decide) ?_
  refine x_istore_n dX2_init_24 (Nat.le_of_ble_eq_true rfl) rfl ?_
  refine x_iload_n dX2_init_25 rfl ?_
  refine x_bipush (v := nI 8) dX2_init_26 (by decide) ?_
  refine x_icmp_ge (tgt := 50) dX2_init_28 (by decide) (fun c => absurd c (by decide)) (fun _ => ?_)
  refine x_aload_n dX2_init_31 rfl ?_
  refine n_get (k := 0) (ci := 2) (f := 0) (N := 3) (C := RX2) (T := TX2) (v := .ref (L + 1)) dX2_init_32 lfX2_11 inX2 rfl (by decide) h rfl rfl (by omega) ?_
  refine x_iload_n dX2_init_35 rfl ?_
  refine n_new (ci := 1) (N := 4) (fs := [.null, .null, .int 0, .int 0]) (C := RX1) (T := TX1) (ty := tyX1) dX2_init_36 lcX2_9 itX1 iiX1 inX1 tyX1_ok rfl df1 h rfl ⟨by dsimp only; omega, by dsimp only; omega⟩ (by omega) ?_
  refine x_dup dX2_init_39 rfl ?_
  refine n_callI (mL := 1) dX2_init_40 (i_X1 (ap_len h rfl) (by omega)) w_X1_init lmX2_24 im_X1_init rfl (Nat.le_of_ble_eq_true rfl) ⟨Nat.le_of_ble_eq_true rfl, Nat.le_of_ble_eq_true rfl, by omega, by omega, by dsimp only; omega, by dsimp only; omega⟩ ?_
  refine n_aast (ka := 1) (kb := 2) (n := 8) (ci := 1) (N := 4) (T := TX1) (refs := []) dX2_init_43 h rfl rfl (by unfold vp_in; decide) (by omega) rfl rfl (by omega) ?_
  show Ex _ _ _ _ (hL (l0 ++ [.inr (2, [.ref (L + 1), .int 0, .int 0]), .inl (3, 8, .inr (.inr (.inr (.inr (fun j => ([L + 2] : List Nat)[j]?))))), .inr (1, [.ref (L + 3), .ref (L + 4), .int (-1), .int 0]), .inl (0, 8, .inl (fun _ => 0)), .inl (0, 8, .inl (fun _ => 0))]), L + 5, w + 28) _
  refine n_iinc (k := 0) dX2_init_44 rfl (Nat.le_of_ble_eq_true rfl) rfl ?_
  refine x_goto (tgt := 25) dX2_init_47 (by decide) ?_
  refine x_iload_n dX2_init_25 rfl ?_
  refine x_bipush (v := nI 8) dX2_init_26 (by decide) ?_
  refine x_icmp_ge (tgt := 50) dX2_init_28 (by decide) (fun c => absurd c (by decide)) (fun _ => ?_)
  refine x_aload_n dX2_init_31 rfl ?_
  refine n_get (k := 0) (ci := 2) (f := 0) (N := 3) (C := RX2) (T := TX2) (v := .ref (L + 1)) dX2_init_32 lfX2_11 inX2 rfl (by decide) h rfl rfl (by omega) ?_
  refine x_iload_n dX2_init_35 rfl ?_
  refine n_new (ci := 1) (N := 4) (fs := [.null, .null, .int 0, .int 0]) (C := RX1) (T := TX1) (ty := tyX1) dX2_init_36 lcX2_9 itX1 iiX1 inX1 tyX1_ok rfl df1 h rfl ⟨by dsimp only; omega, by dsimp only; omega⟩ (by omega) ?_
  refine x_dup dX2_init_39 rfl ?_
  refine n_callI (mL := 1) dX2_init_40 (i_X1 (ap_len h rfl) (by omega)) w_X1_init lmX2_24 im_X1_init rfl (Nat.le_of_ble_eq_true rfl) ⟨Nat.le_of_ble_eq_true rfl, Nat.le_of_ble_eq_true rfl, by omega, by omega, by dsimp only; omega, by dsimp only; omega⟩ ?_
  refine n_aast (ka := 1) (kb := 5) (n := 8) (ci := 1) (N := 4) (T := TX1) (refs := [L + 2]) dX2_init_43 h rfl rfl (by unfold vp_in; decide) (by omega) rfl rfl (by omega) ?_
  show Ex _ _ _ _ (hL (l0 ++ [.inr (2, [.ref (L + 1), .int 0, .int 0]), .inl (3, 8, .inr (.inr (.inr (.inr (fun j => ([L + 2, L + 5] : List Nat)[j]?))))), .inr (1, [.ref (L + 3), .ref (L + 4), .int (-1), .int 0]), .inl (0, 8, .inl (fun _ => 0)), .inl (0, 8, .inl (fun _ => 0)), .inr (1, [.ref (L + 6), .ref (L + 7), .int (-1), .int 0]), .inl (0, 8, .inl (fun _ => 0)), .inl (0, 8, .inl (fun _ => 0))]), L + 8, w + 48) _
  refine n_iinc (k := 1) dX2_init_44 rfl (Nat.le_of_ble_eq_true rfl) rfl ?_
  refine x_goto (tgt := 25) dX2_init_47 (by decide) ?_
  refine x_iload_n dX2_init_25 rfl ?_
  refine x_bipush (v := nI 8) dX2_init_26 (by decide) ?_
  refine x_icmp_ge (tgt := 50) dX2_init_28 (by decide) (fun c => absurd c (by decide)) (fun _ => ?_)
  refine x_aload_n dX2_init_31 rfl ?_
  refine n_get (k := 0) (ci := 2) (f := 0) (N := 3) (C := RX2) (T := TX2) (v := .ref (L + 1)) dX2_init_32 lfX2_11 inX2 rfl (by decide) h rfl rfl (by omega) ?_
  refine x_iload_n dX2_init_35 rfl ?_
  refine n_new (ci := 1) (N := 4) (fs := [.null, .null, .int 0, .int 0]) (C := RX1) (T := TX1) (ty := tyX1) dX2_init_36 lcX2_9 itX1 iiX1 inX1 tyX1_ok rfl df1 h rfl ⟨by dsimp only; omega, by dsimp only; omega⟩ (by omega) ?_
  refine x_dup dX2_init_39 rfl ?_
  refine n_callI (mL := 1) dX2_init_40 (i_X1 (ap_len h rfl) (by omega)) w_X1_init lmX2_24 im_X1_init rfl (Nat.le_of_ble_eq_true rfl) ⟨Nat.le_of_ble_eq_true rfl, Nat.le_of_ble_eq_true rfl, by omega, by omega, by dsimp only; omega, by dsimp only; omega⟩ ?_
  refine n_aast (ka := 1) (kb := 8) (n := 8) (ci := 1) (N := 4) (T := TX1) (refs := [L + 2, L + 5]) dX2_init_43 h rfl rfl (by unfold vp_in; decide) (by omega) rfl rfl (by omega) ?_
  show Ex _ _ _ _ (hL (l0 ++ [.inr (2, [.ref (L + 1), .int 0, .int 0]), .inl (3, 8, .inr (.inr (.inr (.inr (fun j => ([L + 2, L + 5, L + 8] : List Nat)[j]?))))), .inr (1, [.ref (L + 3), .ref (L + 4), .int (-1), .int 0]), .inl (0, 8, .inl (fun _ => 0)), .inl (0, 8, .inl (fun _ => 0)), .inr (1, [.ref (L + 6), .ref (L + 7), .int (-1), .int 0]), .inl (0, 8, .inl (fun _ => 0)), .inl (0, 8, .inl (fun _ => 0)), .inr (1, [.ref (L + 9), .ref (L + 10), .int (-1), .int 0]), .inl (0, 8, .inl (fun _ => 0)), .inl (0, 8, .inl (fun _ => 0))]), L + 11, w + 68) _
  refine n_iinc (k := 2) dX2_init_44 rfl (Nat.le_of_ble_eq_true rfl) rfl ?_
  refine x_goto (tgt := 25) dX2_init_47 (by decide) ?_
  refine x_iload_n dX2_init_25 rfl ?_
  refine x_bipush (v := nI 8) dX2_init_26 (by decide) ?_
  refine x_icmp_ge (tgt := 50) dX2_init_28 (by decide) (fun c => absurd c (by decide)) (fun _ => ?_)
  refine x_aload_n dX2_init_31 rfl ?_
  refine n_get (k := 0) (ci := 2) (f := 0) (N := 3) (C := RX2) (T := TX2) (v := .ref (L + 1)) dX2_init_32 lfX2_11 inX2 rfl (by decide) h rfl rfl (by omega) ?_
  refine x_iload_n dX2_init_35 rfl ?_
  refine n_new (ci := 1) (N := 4) (fs := [.null, .null, .int 0, .int 0]) (C := RX1) (T := TX1) (ty := tyX1) dX2_init_36 lcX2_9 itX1 iiX1 inX1 tyX1_ok rfl df1 h rfl ⟨by dsimp only; omega, by dsimp only; omega⟩ (by omega) ?_
  refine x_dup dX2_init_39 rfl ?_
  refine n_callI (mL := 1) dX2_init_40 (i_X1 (ap_len h rfl) (by omega)) w_X1_init lmX2_24 im_X1_init rfl (Nat.le_of_ble_eq_true rfl) ⟨Nat.le_of_ble_eq_true rfl, Nat.le_of_ble_eq_true rfl, by omega, by omega, by dsimp only; omega, by dsimp only; omega⟩ ?_
  refine n_aast (ka := 1) (kb := 11) (n := 8) (ci := 1) (N := 4) (T := TX1) (refs := [L + 2, L + 5, L + 8]) dX2_init_43 h rfl rfl (by unfold vp_in; decide) (by omega) rfl rfl (by omega) ?_
  show Ex _ _ _ _ (hL (l0 ++ [.inr (2, [.ref (L + 1), .int 0, .int 0]), .inl (3, 8, .inr (.inr (.inr (.inr (fun j => ([L + 2, L + 5, L + 8, L + 11] : List Nat)[j]?))))), .inr (1, [.ref (L + 3), .ref (L + 4), .int (-1), .int 0]), .inl (0, 8, .inl (fun _ => 0)), .inl (0, 8, .inl (fun _ => 0)), .inr (1, [.ref (L + 6), .ref (L + 7), .int (-1), .int 0]), .inl (0, 8, .inl (fun _ => 0)), .inl (0, 8, .inl (fun _ => 0)), .inr (1, [.ref (L + 9), .ref (L + 10), .int (-1), .int 0]), .inl (0, 8, .inl (fun _ => 0)), .inl (0, 8, .inl (fun _ => 0)), .inr (1, [.ref (L + 12), .ref (L + 13), .int (-1), .int 0]), .inl (0, 8, .inl (fun _ => 0)), .inl (0, 8, .inl (fun _ => 0))]), L + 14, w + 88) _
  refine n_iinc (k := 3) dX2_init_44 rfl (Nat.le_of_ble_eq_true rfl) rfl ?_
  refine x_goto (tgt := 25) dX2_init_47 (by decide) ?_
  refine x_iload_n dX2_init_25 rfl ?_
  refine x_bipush (v := nI 8) dX2_init_26 (by decide) ?_
  refine x_icmp_ge (tgt := 50) dX2_init_28 (by decide) (fun c => absurd c (by decide)) (fun _ => ?_)
  refine x_aload_n dX2_init_31 rfl ?_
  refine n_get (k := 0) (ci := 2) (f := 0) (N := 3) (C := RX2) (T := TX2) (v := .ref (L + 1)) dX2_init_32 lfX2_11 inX2 rfl (by decide) h rfl rfl (by omega) ?_
  refine x_iload_n dX2_init_35 rfl ?_
  refine n_new (ci := 1) (N := 4) (fs := [.null, .null, .int 0, .int 0]) (C := RX1) (T := TX1) (ty := tyX1) dX2_init_36 lcX2_9 itX1 iiX1 inX1 tyX1_ok rfl df1 h rfl ⟨by dsimp only; omega, by dsimp only; omega⟩ (by omega) ?_
  refine x_dup dX2_init_39 rfl ?_
  refine n_callI (mL := 1) dX2_init_40 (i_X1 (ap_len h rfl) (by omega)) w_X1_init lmX2_24 im_X1_init rfl (Nat.le_of_ble_eq_true rfl) ⟨Nat.le_of_ble_eq_true rfl, Nat.le_of_ble_eq_true rfl, by omega, by omega, by dsimp only; omega, by dsimp only; omega⟩ ?_
  refine n_aast (ka := 1) (kb := 14) (n := 8) (ci := 1) (N := 4) (T := TX1) (refs := [L + 2, L + 5, L + 8, L + 11]) dX2_init_43 h rfl rfl (by unfold vp_in; decide) (by omega) rfl rfl (by omega) ?_
  show Ex _ _ _ _ (hL (l0 ++ [.inr (2, [.ref (L + 1), .int 0, .int 0]), .inl (3, 8, .inr (.inr (.inr (.inr (fun j => ([L + 2, L + 5, L + 8, L + 11, L + 14] : List Nat)[j]?))))), .inr (1, [.ref (L + 3), .ref (L + 4), .int (-1), .int 0]), .inl (0, 8, .inl (fun _ => 0)), .inl (0, 8, .inl (fun _ => 0)), .inr (1, [.ref (L + 6), .ref (L + 7), .int (-1), .int 0]), .inl (0, 8, .inl (fun _ => 0)), .inl (0, 8, .inl (fun _ => 0)), .inr (1, [.ref (L + 9), .ref (L + 10), .int (-1), .int 0]), .inl (0, 8, .inl (fun _ => 0)), .inl (0, 8, .inl (fun _ => 0)), .inr (1, [.ref (L + 12), .ref (L + 13), .int (-1), .int 0]), .inl (0, 8, .inl (fun _ => 0)), .inl (0, 8, .inl (fun _ => 0)), .inr (1, [.ref (L + 15), .ref (L + 16), .int (-1), .int 0]), .inl (0, 8, .inl (fun _ => 0)), .inl (0, 8, .inl (fun _ => 0))]), L + 17, w + 108) _
  refine n_iinc (k := 4) dX2_init_44 rfl (Nat.le_of_ble_eq_true rfl) rfl ?_
  refine x_goto (tgt := 25) dX2_init_47 (by decide) ?_
  refine x_iload_n dX2_init_25 rfl ?_
  refine x_bipush (v := nI 8) dX2_init_26 (by decide) ?_
  refine x_icmp_ge (tgt := 50) dX2_init_28 (by decide) (fun c => absurd c (by decide)) (fun _ => ?_)
  refine x_aload_n dX2_init_31 rfl ?_
  refine n_get (k := 0) (ci := 2) (f := 0) (N := 3) (C := RX2) (T := TX2) (v := .ref (L + 1)) dX2_init_32 lfX2_11 inX2 rfl (by decide) h rfl rfl (by omega) ?_
  refine x_iload_n dX2_init_35 rfl ?_
  refine n_new (ci := 1) (N := 4) (fs := [.null, .null, .int 0, .int 0]) (C := RX1) (T := TX1) (ty := tyX1) dX2_init_36 lcX2_9 itX1 iiX1 inX1 tyX1_ok rfl df1 h rfl ⟨by dsimp only; omega, by dsimp only; omega⟩ (by omega) ?_
  refine x_dup dX2_init_39 rfl ?_
  refine n_callI (mL := 1) dX2_init_40 (i_X1 (ap_len h rfl) (by omega)) w_X1_init lmX2_24 im_X1_init rfl (Nat.le_of_ble_eq_true rfl) ⟨Nat.le_of_ble_eq_true rfl, Nat.le_of_ble_eq_true rfl, by omega, by omega, by dsimp only; omega, by dsimp only; omega⟩ ?_
  refine n_aast (ka := 1) (kb := 17) (n := 8) (ci := 1) (N := 4) (T := TX1) (refs := [L + 2, L + 5, L + 8, L + 11, L + 14]) dX2_init_43 h rfl rfl (by unfold vp_in; decide) (by omega) rfl rfl (by omega) ?_
  show Ex _ _ _ _ (hL (l0 ++ [.inr (2, [.ref (L + 1), .int 0, .int 0]), .inl (3, 8, .inr (.inr (.inr (.inr (fun j => ([L + 2, L + 5, L + 8, L + 11, L + 14, L + 17] : List Nat)[j]?))))), .inr (1, [.ref (L + 3), .ref (L + 4), .int (-1), .int 0]), .inl (0, 8, .inl (fun _ => 0)), .inl (0, 8, .inl (fun _ => 0)), .inr (1, [.ref (L + 6), .ref (L + 7), .int (-1), .int 0]), .inl (0, 8, .inl (fun _ => 0)), .inl (0, 8, .inl (fun _ => 0)), .inr (1, [.ref (L + 9), .ref (L + 10), .int (-1), .int 0]), .inl (0, 8, .inl (fun _ => 0)), .inl (0, 8, .inl (fun _ => 0)), .inr (1, [.ref (L + 12), .ref (L + 13), .int (-1), .int 0]), .inl (0, 8, .inl (fun _ => 0)), .inl (0, 8, .inl (fun _ => 0)), .inr (1, [.ref (L + 15), .ref (L + 16), .int (-1), .int 0]), .inl (0, 8, .inl (fun _ => 0)), .inl (0, 8, .inl (fun _ => 0)), .inr (1, [.ref (L + 18), .ref (L + 19), .int (-1), .int 0]), .inl (0, 8, .inl (fun _ => 0)), .inl (0, 8, .inl (fun _ => 0))]), L + 20, w + 128) _
  refine n_iinc (k := 5) dX2_init_44 rfl (Nat.le_of_ble_eq_true rfl) rfl ?_
  refine x_goto (tgt := 25) dX2_init_47 (by decide) ?_
  refine x_iload_n dX2_init_25 rfl ?_
  refine x_bipush (v := nI 8) dX2_init_26 (by decide) ?_
  refine x_icmp_ge (tgt := 50) dX2_init_28 (by decide) (fun c => absurd c (by decide)) (fun _ => ?_)
  refine x_aload_n dX2_init_31 rfl ?_
  refine n_get (k := 0) (ci := 2) (f := 0) (N := 3) (C := RX2) (T := TX2) (v := .ref (L + 1)) dX2_init_32 lfX2_11 inX2 rfl (by decide) h rfl rfl (by omega) ?_
  refine x_iload_n dX2_init_35 rfl ?_
  refine n_new (ci := 1) (N := 4) (fs := [.null, .null, .int 0, .int 0]) (C := RX1) (T := TX1) (ty := tyX1) dX2_init_36 lcX2_9 itX1 iiX1 inX1 tyX1_ok rfl df1 h rfl ⟨by dsimp only; omega, by dsimp only; omega⟩ (by omega) ?_
  refine x_dup dX2_init_39 rfl ?_
  refine n_callI (mL := 1) dX2_init_40 (i_X1 (ap_len h rfl) (by omega)) w_X1_init lmX2_24 im_X1_init rfl (Nat.le_of_ble_eq_true rfl) ⟨Nat.le_of_ble_eq_true rfl, Nat.le_of_ble_eq_true rfl, by omega, by omega, by dsimp only; omega, by dsimp only; omega⟩ ?_
  refine n_aast (ka := 1) (kb := 20) (n := 8) (ci := 1) (N := 4) (T := TX1) (refs := [L + 2, L + 5, L + 8, L + 11, L + 14, L + 17]) dX2_init_43 h rfl rfl (by unfold vp_in; decide) (by omega) rfl rfl (by omega) ?_
  show Ex _ _ _ _ (hL (l0 ++ [.inr (2, [.ref (L + 1), .int 0, .int 0]), .inl (3, 8, .inr (.inr (.inr (.inr (fun j => ([L + 2, L + 5, L + 8, L + 11, L + 14, L + 17, L + 20] : List Nat)[j]?))))), .inr (1, [.ref (L + 3), .ref (L + 4), .int (-1), .int 0]), .inl (0, 8, .inl (fun _ => 0)), .inl (0, 8, .inl (fun _ => 0)), .inr (1, [.ref (L + 6), .ref (L + 7), .int (-1), .int 0]), .inl (0, 8, .inl (fun _ => 0)), .inl (0, 8, .inl (fun _ => 0)), .inr (1, [.ref (L + 9), .ref (L + 10), .int (-1), .int 0]), .inl (0, 8, .inl (fun _ => 0)), .inl (0, 8, .inl (fun _ => 0)), .inr (1, [.ref (L + 12), .ref (L + 13), .int (-1), .int 0]), .inl (0, 8, .inl (fun _ => 0)), .inl (0, 8, .inl (fun _ => 0)), .inr (1, [.ref (L + 15), .ref (L + 16), .int (-1), .int 0]), .inl (0, 8, .inl (fun _ => 0)), .inl (0, 8, .inl (fun _ => 0)), .inr (1, [.ref (L + 18), .ref (L + 19), .int (-1), .int 0]), .inl (0, 8, .inl (fun _ => 0)), .inl (0, 8, .inl (fun _ => 0)), .inr (1, [.ref (L + 21), .ref (L + 22), .int (-1), .int 0]), .inl (0, 8, .inl (fun _ => 0)), .inl (0, 8, .inl (fun _ => 0))]), L + 23, w + 148) _
  refine n_iinc (k := 6) dX2_init_44 rfl (Nat.le_of_ble_eq_true rfl) rfl ?_
  refine x_goto (tgt := 25) dX2_init_47 (by decide) ?_
  refine x_iload_n dX2_init_25 rfl ?_
  refine x_bipush (v := nI 8) dX2_init_26 (by decide) ?_
  refine x_icmp_ge (tgt := 50) dX2_init_28 (by decide) (fun c => absurd c (by decide)) (fun _ => ?_)
  refine x_aload_n dX2_init_31 rfl ?_
  refine n_get (k := 0) (ci := 2) (f := 0) (N := 3) (C := RX2) (T := TX2) (v := .ref (L + 1)) dX2_init_32 lfX2_11 inX2 rfl (by decide) h rfl rfl (by omega) ?_
  refine x_iload_n dX2_init_35 rfl ?_
  refine n_new (ci := 1) (N := 4) (fs := [.null, .null, .int 0, .int 0]) (C := RX1) (T := TX1) (ty := tyX1) dX2_init_36 lcX2_9 itX1 iiX1 inX1 tyX1_ok rfl df1 h rfl ⟨by dsimp only; omega, by dsimp only; omega⟩ (by omega) ?_
  refine x_dup dX2_init_39 rfl ?_
  refine n_callI (mL := 1) dX2_init_40 (i_X1 (ap_len h rfl) (by omega)) w_X1_init lmX2_24 im_X1_init rfl (Nat.le_of_ble_eq_true rfl) ⟨Nat.le_of_ble_eq_true rfl, Nat.le_of_ble_eq_true rfl, by omega, by omega, by dsimp only; omega, by dsimp only; omega⟩ ?_
  refine n_aast (ka := 1) (kb := 23) (n := 8) (ci := 1) (N := 4) (T := TX1) (refs := [L + 2, L + 5, L + 8, L + 11, L + 14, L + 17, L + 20]) dX2_init_43 h rfl rfl (by unfold vp_in; decide) (by omega) rfl rfl (by omega) ?_
  show Ex _ _ _ _ (hL (l0 ++ [.inr (2, [.ref (L + 1), .int 0, .int 0]), .inl (3, 8, .inr (.inr (.inr (.inr (fun j => ([L + 2, L + 5, L + 8, L + 11, L + 14, L + 17, L + 20, L + 23] : List Nat)[j]?))))), .inr (1, [.ref (L + 3), .ref (L + 4), .int (-1), .int 0]), .inl (0, 8, .inl (fun _ => 0)), .inl (0, 8, .inl (fun _ => 0)), .inr (1, [.ref (L + 6), .ref (L + 7), .int (-1), .int 0]), .inl (0, 8, .inl (fun _ => 0)), .inl (0, 8, .inl (fun _ => 0)), .inr (1, [.ref (L + 9), .ref (L + 10), .int (-1), .int 0]), .inl (0, 8, .inl (fun _ => 0)), .inl (0, 8, .inl (fun _ => 0)), .inr (1, [.ref (L + 12), .ref (L + 13), .int (-1), .int 0]), .inl (0, 8, .inl (fun _ => 0)), .inl (0, 8, .inl (fun _ => 0)), .inr (1, [.ref (L + 15), .ref (L + 16), .int (-1), .int 0]), .inl (0, 8, .inl (fun _ => 0)), .inl (0, 8, .inl (fun _ => 0)), .inr (1, [.ref (L + 18), .ref (L + 19), .int (-1), .int 0]), .inl (0, 8, .inl (fun _ => 0)), .inl (0, 8, .inl (fun _ => 0)), .inr (1, [.ref (L + 21), .ref (L + 22), .int (-1), .int 0]), .inl (0, 8, .inl (fun _ => 0)), .inl (0, 8, .inl (fun _ => 0)), .inr (1, [.ref (L + 24), .ref (L + 25), .int (-1), .int 0]), .inl (0, 8, .inl (fun _ => 0)), .inl (0, 8, .inl (fun _ => 0))]), L + 26, w + 168) _
  refine n_iinc (k := 7) dX2_init_44 rfl (Nat.le_of_ble_eq_true rfl) rfl ?_
  refine x_goto (tgt := 25) dX2_init_47 (by decide) ?_
  refine x_iload_n dX2_init_25 rfl ?_
  refine x_bipush (v := nI 8) dX2_init_26 (by decide) ?_
  refine x_icmp_ge (tgt := 50) dX2_init_28 (by decide) (fun _ => ?_) (fun c => absurd (by decide) c)
  exact x_ret dX2_init_50 rfl ⟨rfl, rfl⟩
def k_X5 (L : Nat) : List xA := [.inr (5, [.ref (L + 1), .ref (L + 2)]),
    .inl (3, 2, .inr (.inr (.inr (.inr (fun j => ([L + 3, L + 6] : List Nat)[j]?))))),
    .inl (2, 2, .inl (fun _ => 0)),
    .inr (1, [.ref (L + 4), .ref (L + 5), .int (-1), .int 0]),
    .inl (0, 8, .inl (fun _ => 0)),
    .inl (0, 8, .inl (fun _ => 0)),
    .inr (1, [.ref (L + 7), .ref (L + 8), .int (-1), .int 0]),
    .inl (0, 8, .inl (fun _ => 0)),
    .inl (0, 8, .inl (fun _ => 0))]
set_option maxRecDepth 100000 in
theorem i_X5 {l0 : List xA} {L w : Nat} (h : l0.length = L) (hb : L + 9 ≤ 1000) : ExM 2 YX5_init [.ref L] (hL (l0 ++ [.inr (5, [.null, .null])]), L + 1, w) (L + 9, w + 44) (fun v M' => v = none ∧ M' = (hL (l0 ++ k_X5 L), L + 9, w + 44)) := by
  refine ExM_of (by decide +kernel) (Nat.le_of_ble_eq_true rfl) (by show L + 1 ≤ 1000000; omega) (fun v M' hh => by obtain ⟨-, rfl⟩ := hh; exact ⟨Nat.le_refl _, Nat.le_refl _⟩) ?_
  refine x_aload_n dX5_init_0 rfl ?_
  refine x_obj dX5_init_1 tmX5_3 im_objinit cd_objinit (Nat.le_of_ble_eq_true rfl) (Nat.le_of_ble_eq_true rfl) ?_
  refine x_aload_n dX5_init_4 rfl ?_
  refine x_iconst (v := nI 2) dX5_init_5 (by decide) ?_
  refine n_anew (N := 2) dX5_init_6 lcX5_9 (by decide) (by decide) (by decide) h rfl ⟨by dsimp only; omega, by dsimp only; omega⟩ (by omega) ?_
  refine n_putF (k := 0) (ci := 5) (f := 0) (N := 2) (C := RX5) (T := TX5) (ty0 := tyX5) dX5_init_9 lfX5_11 inX5 tyX5_ok nmX5 rfl (by decide) rfl rfl rfl h rfl rfl rfl (Nat.le_of_ble_eq_true rfl) (by omega) ?_
  show Ex _ _ _ _ (hL (l0 ++ [.inr (5, [.ref (L + 1), .null]), .inl (3, 2, .inr (.inr (.inr (.inr (fun j => ([] : List Nat)[j]?)))))]), L + 2, w + 2) _
  refine x_aload_n dX5_init_12 rfl ?_
  refine x_iconst (v := nI 2) dX5_init_13 (by decide) ?_
  refine n_newa (aty := .boolean) (t := 2) (N := 2) dX5_init_14 (by decide) ac_boolean (by decide) (by decide) (by decide) h rfl ⟨by dsimp only; omega, by dsimp only; omega⟩ (by omega) ?_
  refine n_putF (k := 0) (ci := 5) (f := 1) (N := 2) (C := RX5) (T := TX5) (ty0 := tyX5) dX5_init_16 lfX5_17 inX5 tyX5_ok nmX5 rfl (by decide) rfl rfl rfl h rfl rfl rfl (Nat.le_of_ble_eq_true rfl) (by omega) ?_
  show Ex _ _ _ _ (hL (l0 ++ [.inr (5, [.ref (L + 1), .ref (L + 2)]), .inl (3, 2, .inr (.inr (.inr (.inr (fun j => ([] : List Nat)[j]?))))), .inl (2, 2, .inl (fun _ => 0))]), L + 3, w + 4) _
  refine x_iconst (v := nI 0) dX5_init_19 (by decide) ?_
  refine x_istore_n dX5_init_20 (Nat.le_of_ble_eq_true rfl) rfl ?_
  refine x_iload_n dX5_init_21 rfl ?_
  refine x_iconst (v := nI 2) dX5_init_22 (by decide) ?_
  refine x_icmp_ge (tgt := 45) dX5_init_23 (by decide) (fun c => absurd c (by decide)) (fun _ => ?_)
  refine x_aload_n dX5_init_26 rfl ?_
  refine n_get (k := 0) (ci := 5) (f := 0) (N := 2) (C := RX5) (T := TX5) (v := .ref (L + 1)) dX5_init_27 lfX5_11 inX5 rfl (by decide) h rfl rfl (by omega) ?_
  refine x_iload_n dX5_init_30 rfl ?_
  refine n_new (ci := 1) (N := 4) (fs := [.null, .null, .int 0, .int 0]) (C := RX1) (T := TX1) (ty := tyX1) dX5_init_31 lcX5_9 itX1 iiX1 inX1 tyX1_ok rfl df1 h rfl ⟨by dsimp only; omega, by dsimp only; omega⟩ (by omega) ?_
  refine x_dup dX5_init_34 rfl ?_
  refine n_callI (mL := 1) dX5_init_35 (i_X1 (ap_len h rfl) (by omega)) w_X1_init lmX5_21 im_X1_init rfl (Nat.le_of_ble_eq_true rfl) ⟨Nat.le_of_ble_eq_true rfl, Nat.le_of_ble_eq_true rfl, by omega, by omega, by dsimp only; omega, by dsimp only; omega⟩ ?_
  refine n_aast (ka := 1) (kb := 3) (n := 2) (ci := 1) (N := 4) (T := TX1) (refs := []) dX5_init_38 h rfl rfl (by unfold vp_in; decide) (by omega) rfl rfl (by omega) ?_
  show Ex _ _ _ _ (hL (l0 ++ [.inr (5, [.ref (L + 1), .ref (L + 2)]), .inl (3, 2, .inr (.inr (.inr (.inr (fun j => ([L + 3] : List Nat)[j]?))))), .inl (2, 2, .inl (fun _ => 0)), .inr (1, [.ref (L + 4), .ref (L + 5), .int (-1), .int 0]), .inl (0, 8, .inl (fun _ => 0)), .inl (0, 8, .inl (fun _ => 0))]), L + 6, w + 24) _
  refine n_iinc (k := 0) dX5_init_39 rfl (Nat.le_of_ble_eq_true rfl) rfl ?_
  refine x_goto (tgt := 21) dX5_init_42 (by decide) ?_
  refine x_iload_n dX5_init_21 rfl ?_
  refine x_iconst (v := nI 2) dX5_init_22 (by decide) ?_
  refine x_icmp_ge (tgt := 45) dX5_init_23 (by decide) (fun c => absurd c (by decide)) (fun _ => ?_)
  refine x_aload_n dX5_init_26 rfl ?_
  refine n_get (k := 0) (ci := 5) (f := 0) (N := 2) (C := RX5) (T := TX5) (v := .ref (L + 1)) dX5_init_27 lfX5_11 inX5 rfl (by decide) h rfl rfl (by omega) ?_
  refine x_iload_n dX5_init_30 rfl ?_
  refine n_new (ci := 1) (N := 4) (fs := [.null, .null, .int 0, .int 0]) (C := RX1) (T := TX1) (ty := tyX1) dX5_init_31 lcX5_9 itX1 iiX1 inX1 tyX1_ok rfl df1 h rfl ⟨by dsimp only; omega, by dsimp only; omega⟩ (by omega) ?_
  refine x_dup dX5_init_34 rfl ?_
  refine n_callI (mL := 1) dX5_init_35 (i_X1 (ap_len h rfl) (by omega)) w_X1_init lmX5_21 im_X1_init rfl (Nat.le_of_ble_eq_true rfl) ⟨Nat.le_of_ble_eq_true rfl, Nat.le_of_ble_eq_true rfl, by omega, by omega, by dsimp only; omega, by dsimp only; omega⟩ ?_
  refine n_aast (ka := 1) (kb := 6) (n := 2) (ci := 1) (N := 4) (T := TX1) (refs := [L + 3]) dX5_init_38 h rfl rfl (by unfold vp_in; decide) (by omega) rfl rfl (by omega) ?_
  show Ex _ _ _ _ (hL (l0 ++ [.inr (5, [.ref (L + 1), .ref (L + 2)]), .inl (3, 2, .inr (.inr (.inr (.inr (fun j => ([L + 3, L + 6] : List Nat)[j]?))))), .inl (2, 2, .inl (fun _ => 0)), .inr (1, [.ref (L + 4), .ref (L + 5), .int (-1), .int 0]), .inl (0, 8, .inl (fun _ => 0)), .inl (0, 8, .inl (fun _ => 0)), .inr (1, [.ref (L + 7), .ref (L + 8), .int (-1), .int 0]), .inl (0, 8, .inl (fun _ => 0)), .inl (0, 8, .inl (fun _ => 0))]), L + 9, w + 44) _
  refine n_iinc (k := 1) dX5_init_39 rfl (Nat.le_of_ble_eq_true rfl) rfl ?_
  refine x_goto (tgt := 21) dX5_init_42 (by decide) ?_
  refine x_iload_n dX5_init_21 rfl ?_
  refine x_iconst (v := nI 2) dX5_init_22 (by decide) ?_
  refine x_icmp_ge (tgt := 45) dX5_init_23 (by decide) (fun _ => ?_) (fun c => absurd (by decide) c)
  exact x_ret dX5_init_45 rfl ⟨rfl, rfl⟩
def k_X4 (L : Nat) : List xA := [.inr (4, [.ref (L + 1), .ref (L + 2), .ref (L + 3), .int 0, .int (-1)]),
    .inl (3, 5, .inr (.inr (.inr (.inr (fun j => ([L + 4, L + 7, L + 10, L + 13, L + 16] : List Nat)[j]?))))),
    .inl (0, 4, .inl (fun _ => 0)),
    .inl (0, 4, .inl (fun _ => 0)),
    .inr (1, [.ref (L + 5), .ref (L + 6), .int (-1), .int 0]),
    .inl (0, 8, .inl (fun _ => 0)),
    .inl (0, 8, .inl (fun _ => 0)),
    .inr (1, [.ref (L + 8), .ref (L + 9), .int (-1), .int 0]),
    .inl (0, 8, .inl (fun _ => 0)),
    .inl (0, 8, .inl (fun _ => 0)),
    .inr (1, [.ref (L + 11), .ref (L + 12), .int (-1), .int 0]),
    .inl (0, 8, .inl (fun _ => 0)),
    .inl (0, 8, .inl (fun _ => 0)),
    .inr (1, [.ref (L + 14), .ref (L + 15), .int (-1), .int 0]),
    .inl (0, 8, .inl (fun _ => 0)),
    .inl (0, 8, .inl (fun _ => 0)),
    .inr (1, [.ref (L + 17), .ref (L + 18), .int (-1), .int 0]),
    .inl (0, 8, .inl (fun _ => 0)),
    .inl (0, 8, .inl (fun _ => 0))]
set_option maxRecDepth 100000 in
theorem i_X4 {l0 : List xA} {L w : Nat} (h : l0.length = L) (hb : L + 19 ≤ 1000) : ExM 2 YX4_init [.ref L] (hL (l0 ++ [.inr (4, [.null, .null, .null, .int 0, .int 0])]), L + 1, w) (L + 19, w + 113) (fun v M' => v = none ∧ M' = (hL (l0 ++ k_X4 L), L + 19, w + 113)) := by
  refine ExM_of (by decide +kernel) (Nat.le_of_ble_eq_true rfl) (by show L + 1 ≤ 1000000; omega) (fun v M' hh => by obtain ⟨-, rfl⟩ := hh; exact ⟨Nat.le_refl _, Nat.le_refl _⟩) ?_
  refine x_aload_n dX4_init_0 rfl ?_
  refine x_obj dX4_init_1 tmX4_3 im_objinit cd_objinit (Nat.le_of_ble_eq_true rfl) (Nat.le_of_ble_eq_true rfl) ?_
  refine x_aload_n dX4_init_4 rfl ?_
  refine x_iconst (v := nI 5) dX4_init_5 (by decide) ?_
  refine n_anew (N := 5) dX4_init_6 lcX4_9 (by decide) (by decide) (by decide) h rfl ⟨by dsimp only; omega, by dsimp only; omega⟩ (by omega) ?_
  refine n_putF (k := 0) (ci := 4) (f := 0) (N := 5) (C := RX4) (T := TX4) (ty0 := tyX4) dX4_init_9 lfX4_11 inX4 tyX4_ok nmX4 rfl (by decide) rfl rfl rfl h rfl rfl rfl (Nat.le_of_ble_eq_true rfl) (by omega) ?_
  show Ex _ _ _ _ (hL (l0 ++ [.inr (4, [.ref (L + 1), .null, .null, .int 0, .int 0]), .inl (3, 5, .inr (.inr (.inr (.inr (fun j => ([] : List Nat)[j]?)))))]), L + 2, w + 5) _
  refine x_aload_n dX4_init_12 rfl ?_
  refine x_iconst (v := nI 4) dX4_init_13 (by decide) ?_
  refine n_newa (aty := .int) (t := 0) (N := 4) dX4_init_14 (by decide) ac_int (by decide) (by decide) (by decide) h rfl ⟨by dsimp only; omega, by dsimp only; omega⟩ (by omega) ?_
  refine n_putF (k := 0) (ci := 4) (f := 1) (N := 5) (C := RX4) (T := TX4) (ty0 := tyX4) dX4_init_16 lfX4_17 inX4 tyX4_ok nmX4 rfl (by decide) rfl rfl rfl h rfl rfl rfl (Nat.le_of_ble_eq_true rfl) (by omega) ?_
  show Ex _ _ _ _ (hL (l0 ++ [.inr (4, [.ref (L + 1), .ref (L + 2), .null, .int 0, .int 0]), .inl (3, 5, .inr (.inr (.inr (.inr (fun j => ([] : List Nat)[j]?))))), .inl (0, 4, .inl (fun _ => 0))]), L + 3, w + 9) _
  refine x_aload_n dX4_init_19 rfl ?_
  refine x_iconst (v := nI 4) dX4_init_20 (by decide) ?_
  refine n_newa (aty := .int) (t := 0) (N := 4) dX4_init_21 (by decide) ac_int (by decide) (by decide) (by decide) h rfl ⟨by dsimp only; omega, by dsimp only; omega⟩ (by omega) ?_
  refine n_putF (k := 0) (ci := 4) (f := 2) (N := 5) (C := RX4) (T := TX4) (ty0 := tyX4) dX4_init_23 lfX4_21 inX4 tyX4_ok nmX4 rfl (by decide) rfl rfl rfl h rfl rfl rfl (Nat.le_of_ble_eq_true rfl) (by omega) ?_
  show Ex _ _ _ _ (hL (l0 ++ [.inr (4, [.ref (L + 1), .ref (L + 2), .ref (L + 3), .int 0, .int 0]), .inl (3, 5, .inr (.inr (.inr (.inr (fun j => ([] : List Nat)[j]?))))), .inl (0, 4, .inl (fun _ => 0)), .inl (0, 4, .inl (fun _ => 0))]), L + 4, w + 13) _
  refine x_aload_n dX4_init_26 rfl ?_
  refine x_iconst (v := nI 0) dX4_init_27 (by decide) ?_
  refine n_put (k := 0) (ci := 4) (f := 3) (N := 5) (C := RX4) (T := TX4) (ty0 := tyX4) dX4_init_28 lfX4_24 inX4 tyX4_ok nmX4 rfl (by decide) rfl h rfl rfl rfl (Nat.le_of_ble_eq_true rfl) (by omega) ?_
  show Ex _ _ _ _ (hL (l0 ++ [.inr (4, [.ref (L + 1), .ref (L + 2), .ref (L + 3), .int 0, .int 0]), .inl (3, 5, .inr (.inr (.inr (.inr (fun j => ([] : List Nat)[j]?))))), .inl (0, 4, .inl (fun _ => 0)), .inl (0, 4, .inl (fun _ => 0))]), L + 4, w + 13) _
  refine x_aload_n dX4_init_31 rfl ?_
  refine x_iconst (v := -1) dX4_init_32 (by decide) ?_
  refine n_put (k := 0) (ci := 4) (f := 4) (N := 5) (C := RX4) (T := TX4) (ty0 := tyX4) dX4_init_33 lfX4_28 inX4 tyX4_ok nmX4 rfl (by decide) rfl h rfl rfl rfl (Nat.le_of_ble_eq_true rfl) (by omega) ?_
  show Ex _ _ _ _ (hL (l0 ++ [.inr (4, [.ref (L + 1), .ref (L + 2), .ref (L + 3), .int 0, .int (-1)]), .inl (3, 5, .inr (.inr (.inr (.inr (fun j => ([] : List Nat)[j]?))))), .inl (0, 4, .inl (fun _ => 0)), .inl (0, 4, .inl (fun _ => 0))]), L + 4, w + 13) _
  refine x_iconst (v := nI 0) dX4_init_36 (by decide) ?_
  refine x_istore_n dX4_init_37 (Nat.le_of_ble_eq_true rfl) rfl ?_
  refine x_iload_n dX4_init_38 rfl ?_
  refine x_iconst (v := nI 4) dX4_init_39 (by decide) ?_
  refine x_icmp_gt (tgt := 62) dX4_init_40 (by decide) (fun c => absurd c (by decide)) (fun _ => ?_)
  refine x_aload_n dX4_init_43 rfl ?_
  refine n_get (k := 0) (ci := 4) (f := 0) (N := 5) (C := RX4) (T := TX4) (v := .ref (L + 1)) dX4_init_44 lfX4_11 inX4 rfl (by decide) h rfl rfl (by omega) ?_
  refine x_iload_n dX4_init_47 rfl ?_
  refine n_new (ci := 1) (N := 4) (fs := [.null, .null, .int 0, .int 0]) (C := RX1) (T := TX1) (ty := tyX1) dX4_init_48 lcX4_9 itX1 iiX1 inX1 tyX1_ok rfl df1 h rfl ⟨by dsimp only; omega, by dsimp only; omega⟩ (by omega) ?_
  refine x_dup dX4_init_51 rfl ?_
  refine n_callI (mL := 1) dX4_init_52 (i_X1 (ap_len h rfl) (by omega)) w_X1_init lmX4_31 im_X1_init rfl (Nat.le_of_ble_eq_true rfl) ⟨Nat.le_of_ble_eq_true rfl, Nat.le_of_ble_eq_true rfl, by omega, by omega, by dsimp only; omega, by dsimp only; omega⟩ ?_
  refine n_aast (ka := 1) (kb := 4) (n := 5) (ci := 1) (N := 4) (T := TX1) (refs := []) dX4_init_55 h rfl rfl (by unfold vp_in; decide) (by omega) rfl rfl (by omega) ?_
  show Ex _ _ _ _ (hL (l0 ++ [.inr (4, [.ref (L + 1), .ref (L + 2), .ref (L + 3), .int 0, .int (-1)]), .inl (3, 5, .inr (.inr (.inr (.inr (fun j => ([L + 4] : List Nat)[j]?))))), .inl (0, 4, .inl (fun _ => 0)), .inl (0, 4, .inl (fun _ => 0)), .inr (1, [.ref (L + 5), .ref (L + 6), .int (-1), .int 0]), .inl (0, 8, .inl (fun _ => 0)), .inl (0, 8, .inl (fun _ => 0))]), L + 7, w + 33) _
  refine n_iinc (k := 0) dX4_init_56 rfl (Nat.le_of_ble_eq_true rfl) rfl ?_
  refine x_goto (tgt := 38) dX4_init_59 (by decide) ?_
  refine x_iload_n dX4_init_38 rfl ?_
  refine x_iconst (v := nI 4) dX4_init_39 (by decide) ?_
  refine x_icmp_gt (tgt := 62) dX4_init_40 (by decide) (fun c => absurd c (by decide)) (fun _ => ?_)
  refine x_aload_n dX4_init_43 rfl ?_
  refine n_get (k := 0) (ci := 4) (f := 0) (N := 5) (C := RX4) (T := TX4) (v := .ref (L + 1)) dX4_init_44 lfX4_11 inX4 rfl (by decide) h rfl rfl (by omega) ?_
  refine x_iload_n dX4_init_47 rfl ?_
  refine n_new (ci := 1) (N := 4) (fs := [.null, .null, .int 0, .int 0]) (C := RX1) (T := TX1) (ty := tyX1) dX4_init_48 lcX4_9 itX1 iiX1 inX1 tyX1_ok rfl df1 h rfl ⟨by dsimp only; omega, by dsimp only; omega⟩ (by omega) ?_
  refine x_dup dX4_init_51 rfl ?_
  refine n_callI (mL := 1) dX4_init_52 (i_X1 (ap_len h rfl) (by omega)) w_X1_init lmX4_31 im_X1_init rfl (Nat.le_of_ble_eq_true rfl) ⟨Nat.le_of_ble_eq_true rfl, Nat.le_of_ble_eq_true rfl, by omega, by omega, by dsimp only; omega, by dsimp only; omega⟩ ?_
  refine n_aast (ka := 1) (kb := 7) (n := 5) (ci := 1) (N := 4) (T := TX1) (refs := [L + 4]) dX4_init_55 h rfl rfl (by unfold vp_in; decide) (by omega) rfl rfl (by omega) ?_
  show Ex _ _ _ _ (hL (l0 ++ [.inr (4, [.ref (L + 1), .ref (L + 2), .ref (L + 3), .int 0, .int (-1)]), .inl (3, 5, .inr (.inr (.inr (.inr (fun j => ([L + 4, L + 7] : List Nat)[j]?))))), .inl (0, 4, .inl (fun _ => 0)), .inl (0, 4, .inl (fun _ => 0)), .inr (1, [.ref (L + 5), .ref (L + 6), .int (-1), .int 0]), .inl (0, 8, .inl (fun _ => 0)), .inl (0, 8, .inl (fun _ => 0)), .inr (1, [.ref (L + 8), .ref (L + 9), .int (-1), .int 0]), .inl (0, 8, .inl (fun _ => 0)), .inl (0, 8, .inl (fun _ => 0))]), L + 10, w + 53) _
  refine n_iinc (k := 1) dX4_init_56 rfl (Nat.le_of_ble_eq_true rfl) rfl ?_
  refine x_goto (tgt := 38) dX4_init_59 (by decide) ?_
  refine x_iload_n dX4_init_38 rfl ?_
  refine x_iconst (v := nI 4) dX4_init_39 (by decide) ?_
  refine x_icmp_gt (tgt := 62) dX4_init_40 (by decide) (fun c => absurd c (by decide)) (fun _ => ?_)
  refine x_aload_n dX4_init_43 rfl ?_
  refine n_get (k := 0) (ci := 4) (f := 0) (N := 5) (C := RX4) (T := TX4) (v := .ref (L + 1)) dX4_init_44 lfX4_11 inX4 rfl (by decide) h rfl rfl (by omega) ?_
  refine x_iload_n dX4_init_47 rfl ?_
  refine n_new (ci := 1) (N := 4) (fs := [.null, .null, .int 0, .int 0]) (C := RX1) (T := TX1) (ty := tyX1) dX4_init_48 lcX4_9 itX1 iiX1 inX1 tyX1_ok rfl df1 h rfl ⟨by dsimp only; omega, by dsimp only; omega⟩ (by omega) ?_
  refine x_dup dX4_init_51 rfl ?_
  refine n_callI (mL := 1) dX4_init_52 (i_X1 (ap_len h rfl) (by omega)) w_X1_init lmX4_31 im_X1_init rfl (Nat.le_of_ble_eq_true rfl) ⟨Nat.le_of_ble_eq_true rfl, Nat.le_of_ble_eq_true rfl, by omega, by omega, by dsimp only; omega, by dsimp only; omega⟩ ?_
  refine n_aast (ka := 1) (kb := 10) (n := 5) (ci := 1) (N := 4) (T := TX1) (refs := [L + 4, L + 7]) dX4_init_55 h rfl rfl (by unfold vp_in; decide) (by omega) rfl rfl (by omega) ?_
  show Ex _ _ _ _ (hL (l0 ++ [.inr (4, [.ref (L + 1), .ref (L + 2), .ref (L + 3), .int 0, .int (-1)]), .inl (3, 5, .inr (.inr (.inr (.inr (fun j => ([L + 4, L + 7, L + 10] : List Nat)[j]?))))), .inl (0, 4, .inl (fun _ => 0)), .inl (0, 4, .inl (fun _ => 0)), .inr (1, [.ref (L + 5), .ref (L + 6), .int (-1), .int 0]), .inl (0, 8, .inl (fun _ => 0)), .inl (0, 8, .inl (fun _ => 0)), .inr (1, [.ref (L + 8), .ref (L + 9), .int (-1), .int 0]), .inl (0, 8, .inl (fun _ => 0)), .inl (0, 8, .inl (fun _ => 0)), .inr (1, [.ref (L + 11), .ref (L + 12), .int (-1), .int 0]), .inl (0, 8, .inl (fun _ => 0)), .inl (0, 8, .inl (fun _ => 0))]), L + 13, w + 73) _
  refine n_iinc (k := 2) dX4_init_56 rfl (Nat.le_of_ble_eq_true rfl) rfl ?_
  refine x_goto (tgt := 38) dX4_init_59 (by decide) ?_
  refine x_iload_n dX4_init_38 rfl ?_
  refine x_iconst (v := nI 4) dX4_init_39 (by decide) ?_
  refine x_icmp_gt (tgt := 62) dX4_init_40 (by decide) (fun c => absurd c (by decide)) (fun _ => ?_)
  refine x_aload_n dX4_init_43 rfl ?_
  refine n_get (k := 0) (ci := 4) (f := 0) (N := 5) (C := RX4) (T := TX4) (v := .ref (L + 1)) dX4_init_44 lfX4_11 inX4 rfl (by decide) h rfl rfl (by omega) ?_
  refine x_iload_n dX4_init_47 rfl ?_
  refine n_new (ci := 1) (N := 4) (fs := [.null, .null, .int 0, .int 0]) (C := RX1) (T := TX1) (ty := tyX1) dX4_init_48 lcX4_9 itX1 iiX1 inX1 tyX1_ok rfl df1 h rfl ⟨by dsimp only; omega, by dsimp only; omega⟩ (by omega) ?_
  refine x_dup dX4_init_51 rfl ?_
  refine n_callI (mL := 1) dX4_init_52 (i_X1 (ap_len h rfl) (by omega)) w_X1_init lmX4_31 im_X1_init rfl (Nat.le_of_ble_eq_true rfl) ⟨Nat.le_of_ble_eq_true rfl, Nat.le_of_ble_eq_true rfl, by omega, by omega, by dsimp only; omega, by dsimp only; omega⟩ ?_
  refine n_aast (ka := 1) (kb := 13) (n := 5) (ci := 1) (N := 4) (T := TX1) (refs := [L + 4, L + 7, L + 10]) dX4_init_55 h rfl rfl (by unfold vp_in; decide) (by omega) rfl rfl (by omega) ?_
  show Ex _ _ _ _ (hL (l0 ++ [.inr (4, [.ref (L + 1), .ref (L + 2), .ref (L + 3), .int 0, .int (-1)]), .inl (3, 5, .inr (.inr (.inr (.inr (fun j => ([L + 4, L + 7, L + 10, L + 13] : List Nat)[j]?))))), .inl (0, 4, .inl (fun _ => 0)), .inl (0, 4, .inl (fun _ => 0)), .inr (1, [.ref (L + 5), .ref (L + 6), .int (-1), .int 0]), .inl (0, 8, .inl (fun _ => 0)), .inl (0, 8, .inl (fun _ => 0)), .inr (1, [.ref (L + 8), .ref (L + 9), .int (-1), .int 0]), .inl (0, 8, .inl (fun _ => 0)), .inl (0, 8, .inl (fun _ => 0)), .inr (1, [.ref (L + 11), .ref (L + 12), .int (-1), .int 0]), .inl (0, 8, .inl (fun _ => 0)), .inl (0, 8, .inl (fun _ => 0)), .inr (1, [.ref (L + 14), .ref (L + 15), .int (-1), .int 0]), .inl (0, 8, .inl (fun _ => 0)), .inl (0, 8, .inl (fun _ => 0))]), L + 16, w + 93) _
  refine n_iinc (k := 3) dX4_init_56 rfl (Nat.le_of_ble_eq_true rfl) rfl ?_
  refine x_goto (tgt := 38) dX4_init_59 (by decide) ?_
  refine x_iload_n dX4_init_38 rfl ?_
  refine x_iconst (v := nI 4) dX4_init_39 (by decide) ?_
  refine x_icmp_gt (tgt := 62) dX4_init_40 (by decide) (fun c => absurd c (by decide)) (fun _ => ?_)
  refine x_aload_n dX4_init_43 rfl ?_
  refine n_get (k := 0) (ci := 4) (f := 0) (N := 5) (C := RX4) (T := TX4) (v := .ref (L + 1)) dX4_init_44 lfX4_11 inX4 rfl (by decide) h rfl rfl (by omega) ?_
  refine x_iload_n dX4_init_47 rfl ?_
  refine n_new (ci := 1) (N := 4) (fs := [.null, .null, .int 0, .int 0]) (C := RX1) (T := TX1) (ty := tyX1) dX4_init_48 lcX4_9 itX1 iiX1 inX1 tyX1_ok rfl df1 h rfl ⟨by dsimp only; omega, by dsimp only; omega⟩ (by omega) ?_
  refine x_dup dX4_init_51 rfl ?_
  refine n_callI (mL := 1) dX4_init_52 (i_X1 (ap_len h rfl) (by omega)) w_X1_init lmX4_31 im_X1_init rfl (Nat.le_of_ble_eq_true rfl) ⟨Nat.le_of_ble_eq_true rfl, Nat.le_of_ble_eq_true rfl, by omega, by omega, by dsimp only; omega, by dsimp only; omega⟩ ?_
  refine n_aast (ka := 1) (kb := 16) (n := 5) (ci := 1) (N := 4) (T := TX1) (refs := [L + 4, L + 7, L + 10, L + 13]) dX4_init_55 h rfl rfl (by unfold vp_in; decide) (by omega) rfl rfl (by omega) ?_
  show Ex _ _ _ _ (hL (l0 ++ [.inr (4, [.ref (L + 1), .ref (L + 2), .ref (L + 3), .int 0, .int (-1)]), .inl (3, 5, .inr (.inr (.inr (.inr (fun j => ([L + 4, L + 7, L + 10, L + 13, L + 16] : List Nat)[j]?))))), .inl (0, 4, .inl (fun _ => 0)), .inl (0, 4, .inl (fun _ => 0)), .inr (1, [.ref (L + 5), .ref (L + 6), .int (-1), .int 0]), .inl (0, 8, .inl (fun _ => 0)), .inl (0, 8, .inl (fun _ => 0)), .inr (1, [.ref (L + 8), .ref (L + 9), .int (-1), .int 0]), .inl (0, 8, .inl (fun _ => 0)), .inl (0, 8, .inl (fun _ => 0)), .inr (1, [.ref (L + 11), .ref (L + 12), .int (-1), .int 0]), .inl (0, 8, .inl (fun _ => 0)), .inl (0, 8, .inl (fun _ => 0)), .inr (1, [.ref (L + 14), .ref (L + 15), .int (-1), .int 0]), .inl (0, 8, .inl (fun _ => 0)), .inl (0, 8, .inl (fun _ => 0)), .inr (1, [.ref (L + 17), .ref (L + 18), .int (-1), .int 0]), .inl (0, 8, .inl (fun _ => 0)), .inl (0, 8, .inl (fun _ => 0))]), L + 19, w + 113) _
  refine n_iinc (k := 4) dX4_init_56 rfl (Nat.le_of_ble_eq_true rfl) rfl ?_
  refine x_goto (tgt := 38) dX4_init_59 (by decide) ?_
  refine x_iload_n dX4_init_38 rfl ?_
  refine x_iconst (v := nI 4) dX4_init_39 (by decide) ?_
  refine x_icmp_gt (tgt := 62) dX4_init_40 (by decide) (fun _ => ?_) (fun c => absurd (by decide) c)
  exact x_ret dX4_init_62 rfl ⟨rfl, rfl⟩
