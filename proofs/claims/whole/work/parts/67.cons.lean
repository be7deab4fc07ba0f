/-! ===== constructors: the heap as a list ===== -/
abbrev dz : xA := .inl (0, 0, .inl (fun _ => 0))
def hL (l : List xA) : Nat → xA := fun i => l.getD i dz
theorem ap_len {l0 r : List xA} {L m : Nat} (h : l0.length = L) (hm : L + r.length = m) : (l0 ++ r).length = m := by rw [List.length_append, h]; exact hm
theorem hL_new {l0 r : List xA} {L m : Nat} (h : l0.length = L) (hm : L + r.length = m) (c : xA) : xu (hL (l0 ++ r)) m c = hL (l0 ++ (r ++ [c])) := by
  have hl := ap_len h hm
  rw [← List.append_assoc]
  generalize l0 ++ r = l at hl ⊢
  subst hl
  funext i
  unfold xu hL
  rw [List.getD_eq_getElem?_getD, List.getD_eq_getElem?_getD]
  by_cases e : i = l.length
  · subst e; rw [if_pos rfl, List.getElem?_append_right (Nat.le_refl _), Nat.sub_self]; rfl
  · rw [if_neg e]
    by_cases q : i < l.length
    · rw [List.getElem?_append_left q]
    · rw [List.getElem?_eq_none (by omega), List.getElem?_eq_none (by rw [List.length_append]; show l.length + 1 ≤ i; omega)]
theorem hL_get {l0 r : List xA} {L k : Nat} {c : xA} (h : l0.length = L) (hr : r[k]? = some c) : hL (l0 ++ r) (L + k) = c := by
  unfold hL
  rw [List.getD_eq_getElem?_getD, List.getElem?_append_right (by omega), show L + k - l0.length = k by omega, hr]
  rfl
theorem hL_set {l0 r : List xA} {L k : Nat} {c c' : xA} (h : l0.length = L) (hr : r[k]? = some c') : xu (hL (l0 ++ r)) (L + k) c = hL (l0 ++ r.set k c) := by
  have hk : k < r.length := (List.getElem?_eq_some_iff.mp hr).1
  funext i
  unfold xu hL
  rw [List.getD_eq_getElem?_getD, List.getD_eq_getElem?_getD]
  by_cases e : i = L + k
  · subst e; rw [if_pos rfl, List.getElem?_append_right (by omega), show L + k - l0.length = k by omega, List.getElem?_set_self hk]; rfl
  · rw [if_neg e]
    by_cases q : i < L
    · rw [List.getElem?_append_left (by omega), List.getElem?_append_left (by omega)]
    · rw [List.getElem?_append_right (by omega), List.getElem?_append_right (by omega), List.getElem?_set_ne (by omega)]
section XN
variable {E : xE} {pc : Nat} {Lc S : List Value} {Q : Option Value → xM → Prop} {l0 r : List xA} {L m w : Nat}
theorem n_iinc {M : xM} {i k : Nat} (hd : decode E.1.2.1 pc = .ok (.iinc i 1, 3)) (hv : Lc[i]? = some (.int (nI k))) (hn : i < E.1.2.2.1) (ho : xok i Lc = true) (kk : Ex E (pc + 3) (Lc.set i (.int (nI (k + 1)))) S M Q) : Ex E pc Lc S M Q :=
  x_iinc hd hv hn ho (by rw [show nI k + Int32.ofInt 1 = nI (k + 1) from nI_1 k]; exact kk)
theorem n_new {ci index N : Nat} {fs : List Value} {C : String} {T : u_T} {ty : Nat → FieldType} (hd : decode E.1.2.1 pc = .ok (.new index, 3)) (hcl : Cond.classLink E.1.1.cls index C ∈ xT) (hins : Cond.instantiable C N ∈ xT) (hii : Cond.initialized C ∈ xT) (hin : ∀ w ∈ u_ws C T N, w ∈ xT) (hty : ∀ k, k < N → parseFieldDescriptor (T k).2.2.1 = some (ty k)) (hc : vwCl[ci]? = some (C, T, N)) (hfs : ∀ ad : Nat → Nat, ∀ j, j < N → defaultValue (ty j) = vp_V (fs.map (xv ad)) j) (h : l0.length = L) (hm : L + r.length = m) (hB : m + 1 ≤ E.2.2.1.1 ∧ w + N ≤ E.2.2.1.2) (hn : m < 1000000) (kk : Ex E (pc + 3) Lc (.ref m :: S) (hL (l0 ++ (r ++ [.inr (ci, fs)])), m + 1, w + N) Q) : Ex E pc Lc S (hL (l0 ++ r), m, w) Q := by
  refine x_new (M := (hL (l0 ++ r), m, w)) hd hcl hins hii hin hty hc hfs hB hn ?_
  show Ex E _ _ (.ref m :: S) (xu (hL (l0 ++ r)) m _, m + 1, w + N) Q
  rw [hL_new h hm]
  exact kk
theorem n_newa {aty : ArrayType} {t N : Nat} {n : Int32} (hd : decode E.1.2.1 pc = .ok (.newarray aty, 2)) (ht : t = 0 ∧ aty = .int ∨ t = 1 ∧ aty = .char ∨ t = 2 ∧ aty = .boolean) (hw : Cond.arrayClass (newarray.typeOf aty) ∈ xT) (h0n : ¬ n < 0) (hN : n.toNatClampNeg = N) (hby : N ≤ 1000000) (h : l0.length = L) (hm : L + r.length = m) (hB : m + 1 ≤ E.2.2.1.1 ∧ w + N ≤ E.2.2.1.2) (hn : m < 1000000) (kk : Ex E (pc + 2) Lc (.ref m :: S) (hL (l0 ++ (r ++ [.inl (t, N, .inl (fun _ => 0))])), m + 1, w + N) Q) : Ex E pc Lc (.int n :: S) (hL (l0 ++ r), m, w) Q := by
  refine x_newa (M := (hL (l0 ++ r), m, w)) hd ht hw h0n hN hby hB hn ?_
  show Ex E _ _ (.ref m :: S) (xu (hL (l0 ++ r)) m _, m + 1, w + N) Q
  rw [hL_new h hm]
  exact kk
theorem n_anew {index N : Nat} {n : Int32} (hd : decode E.1.2.1 pc = .ok (.anewarray index, 3)) (hcl : Cond.classLink E.1.1.cls index RX1 ∈ xT) (h0n : ¬ n < 0) (hN : n.toNatClampNeg = N) (hby : N ≤ 1000000) (h : l0.length = L) (hm : L + r.length = m) (hB : m + 1 ≤ E.2.2.1.1 ∧ w + N ≤ E.2.2.1.2) (hn : m < 1000000) (kk : Ex E (pc + 3) Lc (.ref m :: S) (hL (l0 ++ (r ++ [.inl (3, N, .inr (.inr (.inr (.inr (fun j => ([] : List Nat)[j]?)))))])), m + 1, w + N) Q) : Ex E pc Lc (.int n :: S) (hL (l0 ++ r), m, w) Q := by
  refine x_anew (M := (hL (l0 ++ r), m, w)) hd hcl h0n hN hby hB hn ?_
  show Ex E _ _ (.ref m :: S) (xu (hL (l0 ++ r)) m _, m + 1, w + N) Q
  rw [hL_new h hm]
  exact kk
theorem n_putF {k ci f index N : Nat} {fs : List Value} {v : Value} {C : String} {T : u_T} {ty0 : Nat → FieldType} (hd : decode E.1.2.1 pc = .ok (.putfield index, 3)) (hlink : Cond.fieldLink E.1.1.cls index (T f).1 (T f).2.1 (T f).2.2.1 ∈ xT) (hin : ∀ w ∈ u_ws C T N, w ∈ xT) (hty : ∀ k, k < N → parseFieldDescriptor (T k).2.2.1 = some (ty0 k)) (hnm : ∀ a, a < N → ∀ b, b < N → a ≠ b → (T a).2.1 ≠ (T b).2.1) (hc : vwCl[ci]? = some (C, T, N)) (hk : f < N) (hfin : (T f).2.2.2 = true) (hI : E.1.1.name = "<init>") (hdecl : (T f).1 = E.1.1.cls) (h : l0.length = L) (hr : r[k]? = some (.inr (ci, fs))) (hn : narrow (ty0 f) v = v) (hfit : fits (ty0 f) v = true) (hl0 : f < fs.length) (hm : L + k < m) (kk : Ex E (pc + 3) Lc S (hL (l0 ++ r.set k (.inr (ci, fs.set f v))), m, w) Q) : Ex E pc Lc (v :: .ref (L + k) :: S) (hL (l0 ++ r), m, w) Q := by
  refine x_putF (M := (hL (l0 ++ r), m, w)) hd hlink hin hty hnm hc hk hfin hI hdecl hm (hL_get h hr) hn hfit hl0 ?_
  show Ex E _ _ S (xu (hL (l0 ++ r)) (L + k) _, m, w) Q
  rw [hL_set h hr]
  exact kk
theorem n_put {k ci f index N : Nat} {fs : List Value} {v : Value} {C : String} {T : u_T} {ty0 : Nat → FieldType} (hd : decode E.1.2.1 pc = .ok (.putfield index, 3)) (hlink : Cond.fieldLink E.1.1.cls index (T f).1 (T f).2.1 (T f).2.2.1 ∈ xT) (hin : ∀ w ∈ u_ws C T N, w ∈ xT) (hty : ∀ k, k < N → parseFieldDescriptor (T k).2.2.1 = some (ty0 k)) (hnm : ∀ a, a < N → ∀ b, b < N → a ≠ b → (T a).2.1 ≠ (T b).2.1) (hc : vwCl[ci]? = some (C, T, N)) (hk : f < N) (hfin : (T f).2.2.2 = false) (h : l0.length = L) (hr : r[k]? = some (.inr (ci, fs))) (hn : narrow (ty0 f) v = v) (hfit : fits (ty0 f) v = true) (hl0 : f < fs.length) (hm : L + k < m) (kk : Ex E (pc + 3) Lc S (hL (l0 ++ r.set k (.inr (ci, fs.set f v))), m, w) Q) : Ex E pc Lc (v :: .ref (L + k) :: S) (hL (l0 ++ r), m, w) Q := by
  refine x_put (M := (hL (l0 ++ r), m, w)) hd hlink hin hty hnm hc hk hfin hm (hL_get h hr) hn hfit hl0 ?_
  show Ex E _ _ S (xu (hL (l0 ++ r)) (L + k) _, m, w) Q
  rw [hL_set h hr]
  exact kk
theorem n_get {k ci f index N : Nat} {fs : List Value} {v : Value} {C : String} {T : u_T} (hd : decode E.1.2.1 pc = .ok (.getfield index, 3)) (hlink : Cond.fieldLink E.1.1.cls index (T f).1 (T f).2.1 (T f).2.2.1 ∈ xT) (hin : ∀ w ∈ u_ws C T N, w ∈ xT) (hc : vwCl[ci]? = some (C, T, N)) (hk : f < N) (h : l0.length = L) (hr : r[k]? = some (.inr (ci, fs))) (hv : fs[f]? = some v) (hm : L + k < m) (kk : Ex E (pc + 3) Lc (v :: S) (hL (l0 ++ r), m, w) Q) : Ex E pc Lc (.ref (L + k) :: S) (hL (l0 ++ r), m, w) Q :=
  x_get (M := (hL (l0 ++ r), m, w)) hd hlink hin hc hk hm (hL_get h hr) hv kk
theorem n_aast {ka kb n ci N : Nat} {fs : List Value} {T : u_T} {refs : List Nat} {i : Int32} (hd : decode E.1.2.1 pc = .ok (.aastore, 1)) (h : l0.length = L) (hr : r[ka]? = some (.inl (3, n, .inr (.inr (.inr (.inr (fun j => refs[j]?))))))) (hi : i.toNatClampNeg = refs.length) (hin : vp_in i n) (hbm : L + kb < m) (hb : r[kb]? = some (.inr (ci, fs))) (hc : vwCl[ci]? = some (RX1, T, N)) (ham : L + ka < m) (kk : Ex E (pc + 1) Lc S (hL (l0 ++ r.set ka (.inl (3, n, .inr (.inr (.inr (.inr (fun j => (refs ++ [L + kb])[j]?))))))), m, w) Q) : Ex E pc Lc (.ref (L + kb) :: .int i :: .ref (L + ka) :: S) (hL (l0 ++ r), m, w) Q := by
  refine x_aast (M := (hL (l0 ++ r), m, w)) hd ham (hL_get h hr) hin hbm (hL_get h hb) hc ?_
  show Ex E _ _ S (xu (hL (l0 ++ r)) (L + ka) _, m, w) Q
  have e : va_up (fun j => refs[j]?) i.toNatClampNeg (some (L + kb)) = fun j => (refs ++ [L + kb])[j]? := by
    funext j
    unfold va_up
    rw [hi]
    by_cases q : j = refs.length
    · subst q; rw [if_pos rfl, List.getElem?_append_right (Nat.le_refl _), Nat.sub_self]; rfl
    · rw [if_neg q]
      show refs[j]? = (refs ++ [L + kb])[j]?
      by_cases z : j < refs.length
      · rw [List.getElem?_append_left z]
      · rw [List.getElem?_eq_none (by omega), List.getElem?_eq_none (by rw [List.length_append]; show refs.length + 1 ≤ j; omega)]
  rw [e, hL_set h hr]
  exact kk
theorem n_callI {index b d k u : Nat} {y : MethodName} {cc : ByteArray} {mL : Nat} {r0 r1 : List xA} {F : xA} (hd : decode E.1.2.1 pc = .ok (.invokespecial index, 3)) (hM : ExM d (y, cc, mL, none) [.ref b] (hL ((l0 ++ r0) ++ [F]), b + 1, w) (b + k, u) (fun v M' => v = none ∧ M' = (hL ((l0 ++ r0) ++ r1), b + k, u))) (hw : xMw (y, cc, mL, none) 0) (hlk : xlm E.1.1.cls index y) (hin : Cond.instanceMethod y ∈ xT) (hi : y.name = "<init>") (hS : S.length ≤ 4) (hB : d + 1 ≤ E.2.1 ∧ 8 + (mL + 11) + 64 * d ≤ 64 * E.2.1 ∧ b + 1 ≤ b + k ∧ w ≤ u ∧ b + k ≤ E.2.2.1.1 ∧ u ≤ E.2.2.1.2) (kk : Ex E (pc + 3) Lc S (hL (l0 ++ (r0 ++ r1)), b + k, u) Q) : Ex E pc Lc (.ref b :: S) (hL (l0 ++ (r0 ++ [F])), b + 1, w) Q := by
  rw [← List.append_assoc] at kk ⊢
  refine x_callI (As := []) hd hM hw hlk hin hi rfl hS ⟨hB.1, hB.2.1, hB.2.2.1, hB.2.2.2.1, hB.2.2.2.2.1, hB.2.2.2.2.2, fun v M' hh => by obtain ⟨-, rfl⟩ := hh; exact ⟨rfl, rfl⟩⟩ (fun v M' hh => ?_)
  obtain ⟨rfl, rfl⟩ := hh
  exact kk
end XN

theorem df0 : ∀ ad : Nat → Nat, ∀ j, j < 3 → defaultValue (tyX0 j) = vp_V (([.null, .null, .int 0] : List Value).map (xv ad)) j := fun ad j hj => match j, hj with
  | 0, _ => rfl
  | 1, _ => rfl
  | 2, _ => rfl
  | j + 3, hj => absurd hj (by omega)
theorem df1 : ∀ ad : Nat → Nat, ∀ j, j < 4 → defaultValue (tyX1 j) = vp_V (([.null, .null, .int 0, .int 0] : List Value).map (xv ad)) j := fun ad j hj => match j, hj with
  | 0, _ => rfl
  | 1, _ => rfl
  | 2, _ => rfl
  | 3, _ => rfl
  | j + 4, hj => absurd hj (by omega)
theorem df2 : ∀ ad : Nat → Nat, ∀ j, j < 3 → defaultValue (tyX2 j) = vp_V (([.null, .int 0, .int 0] : List Value).map (xv ad)) j := fun ad j hj => match j, hj with
  | 0, _ => rfl
  | 1, _ => rfl
  | 2, _ => rfl
  | j + 3, hj => absurd hj (by omega)
theorem df3 : ∀ ad : Nat → Nat, ∀ j, j < 8 → defaultValue (tyX3 j) = vp_V (([.null, .null, .null, .null, .null, .int 0, .int 0, .int 0] : List Value).map (xv ad)) j := fun ad j hj => match j, hj with
  | 0, _ => rfl
  | 1, _ => rfl
  | 2, _ => rfl
  | 3, _ => rfl
  | 4, _ => rfl
  | 5, _ => rfl
  | 6, _ => rfl
  | 7, _ => rfl
  | j + 8, hj => absurd hj (by omega)
theorem df4 : ∀ ad : Nat → Nat, ∀ j, j < 5 → defaultValue (tyX4 j) = vp_V (([.null, .null, .null, .int 0, .int 0] : List Value).map (xv ad)) j := fun ad j hj => match j, hj with
  | 0, _ => rfl
  | 1, _ => rfl
  | 2, _ => rfl
  | 3, _ => rfl
  | 4, _ => rfl
  | j + 5, hj => absurd hj (by omega)
theorem df5 : ∀ ad : Nat → Nat, ∀ j, j < 2 → defaultValue (tyX5 j) = vp_V (([.null, .null] : List Value).map (xv ad)) j := fun ad j hj => match j, hj with
  | 0, _ => rfl
  | 1, _ => rfl
  | j + 2, hj => absurd hj (by omega)
theorem df6 : ∀ ad : Nat → Nat, ∀ j, j < 3 → defaultValue (tyX6 j) = vp_V (([.null, .null, .int 0] : List Value).map (xv ad)) j := fun ad j hj => match j, hj with
  | 0, _ => rfl
  | 1, _ => rfl
  | 2, _ => rfl
  | j + 3, hj => absurd hj (by omega)
theorem df7 : ∀ ad : Nat → Nat, ∀ j, j < 5 → defaultValue (tyX7 j) = vp_V (([.null, .int 0, .int 0, .int 0, .int 0] : List Value).map (xv ad)) j := fun ad j hj => match j, hj with
  | 0, _ => rfl
  | 1, _ => rfl
  | 2, _ => rfl
  | 3, _ => rfl
  | 4, _ => rfl
  | j + 5, hj => absurd hj (by omega)
theorem df8 : ∀ ad : Nat → Nat, ∀ j, j < 10 → defaultValue (tyX8 j) = vp_V (([.null, .null, .null, .null, .null, .null, .null, .null, .null, .null] : List Value).map (xv ad)) j := fun ad j hj => match j, hj with
  | 0, _ => rfl
  | 1, _ => rfl
  | 2, _ => rfl
  | 3, _ => rfl
  | 4, _ => rfl
  | 5, _ => rfl
  | 6, _ => rfl
  | 7, _ => rfl
  | 8, _ => rfl
  | 9, _ => rfl
  | j + 10, hj => absurd hj (by omega)
theorem df9 : ∀ ad : Nat → Nat, ∀ j, j < 20 → defaultValue (tyX9 j) = vp_V (([.null, .int 0, .null, .null, .null, .null, .int 0, .null, .null, .null, .int 0, .int 0, .int 0, .int 0, .int 0, .null, .int 0, .int 0, .int 0, .null] : List Value).map (xv ad)) j := fun ad j hj => match j, hj with
  | 0, _ => rfl
  | 1, _ => rfl
  | 2, _ => rfl
  | 3, _ => rfl
  | 4, _ => rfl
  | 5, _ => rfl
  | 6, _ => rfl
  | 7, _ => rfl
  | 8, _ => rfl
  | 9, _ => rfl
  | 10, _ => rfl
  | 11, _ => rfl
  | 12, _ => rfl
  | 13, _ => rfl
  | 14, _ => rfl
  | 15, _ => rfl
  | 16, _ => rfl
  | 17, _ => rfl
  | 18, _ => rfl
  | 19, _ => rfl
  | j + 20, hj => absurd hj (by omega)
def k_X1 (L : Nat) : List xA := [.inr (1, [.ref (L + 1), .ref (L + 2), .int (-1), .int 0]),
    .inl (0, 8, .inl (fun _ => 0)),
    .inl (0, 8, .inl (fun _ => 0))]
set_option maxRecDepth 100000 in
theorem i_X1 {l0 : List xA} {L w : Nat} (h : l0.length = L) (hb : L + 3 ≤ 1000) : ExM 1 YX1_init [.ref L] (hL (l0 ++ [.inr (1, [.null, .null, .int 0, .int 0])]), L + 1, w) (L + 3, w + 16) (fun v M' => v = none ∧ M' = (hL (l0 ++ k_X1 L), L + 3, w + 16)) := by
  refine ExM_of (by decide +kernel) (Nat.le_of_ble_eq_true rfl) (by show L + 1 ≤ 1000000; omega) (fun v M' hh => by obtain ⟨-, rfl⟩ := hh; exact ⟨Nat.le_refl _, Nat.le_refl _⟩) ?_
  refine x_aload_n dX1_init_0 rfl ?_
  refine x_obj dX1_init_1 tmX1_3 im_objinit cd_objinit (Nat.le_of_ble_eq_true rfl) (Nat.le_of_ble_eq_true rfl) ?_
  refine x_aload_n dX1_init_4 rfl ?_
  refine x_bipush (v := nI 8) dX1_init_5 (by decide) ?_
  refine n_newa (aty := .int) (t := 0) (N := 8) dX1_init_7 (by decide) ac_int (by decide) (by decide) (by decide) h rfl ⟨by dsimp only; omega, by dsimp only; omega⟩ (by omega) ?_
  refine n_putF (k := 0) (ci := 1) (f := 0) (N := 4) (C := RX1) (T := TX1) (ty0 := tyX1) dX1_init_9 lfX1_9 inX1 tyX1_ok nmX1 rfl (by decide) rfl rfl rfl h rfl rfl rfl (Nat.le_of_ble_eq_true rfl) (by omega) ?_
  show Ex _ _ _ _ (hL (l0 ++ [.inr (1, [.ref (L + 1), .null, .int 0, .int 0]), .inl (0, 8, .inl (fun _ => 0))]), L + 2, w + 8) _
  refine x_aload_n dX1_init_12 rfl ?_
  refine x_bipush (v := nI 8) dX1_init_13 (by decide) ?_
  refine n_newa (aty := .int) (t := 0) (N := 8) dX1_init_15 (by decide) ac_int (by decide) (by decide) (by decide) h rfl ⟨by dsimp only; omega, by dsimp only; omega⟩ (by omega) ?_
  refine n_putF (k := 0) (ci := 1) (f := 1) (N := 4) (C := RX1) (T := TX1) (ty0 := tyX1) dX1_init_17 lfX1_15 inX1 tyX1_ok nmX1 rfl (by decide) rfl rfl rfl h rfl rfl rfl (Nat.le_of_ble_eq_true rfl) (by omega) ?_
  show Ex _ _ _ _ (hL (l0 ++ [.inr (1, [.ref (L + 1), .ref (L + 2), .int 0, .int 0]), .inl (0, 8, .inl (fun _ => 0)), .inl (0, 8, .inl (fun _ => 0))]), L + 3, w + 16) _
  refine x_aload_n dX1_init_20 rfl ?_
  refine x_iconst (v := -1) dX1_init_21 (by decide) ?_
  refine n_put (k := 0) (ci := 1) (f := 2) (N := 4) (C := RX1) (T := TX1) (ty0 := tyX1) dX1_init_22 lfX1_18 inX1 tyX1_ok nmX1 rfl (by decide) rfl h rfl rfl rfl (Nat.le_of_ble_eq_true rfl) (by omega) ?_
  show Ex _ _ _ _ (hL (l0 ++ [.inr (1, [.ref (L + 1), .ref (L + 2), .int (-1), .int 0]), .inl (0, 8, .inl (fun _ => 0)), .inl (0, 8, .inl (fun _ => 0))]), L + 3, w + 16) _
  refine x_aload_n dX1_init_25 rfl ?_
  refine x_iconst (v := nI 0) dX1_init_26 (by decide) ?_
  refine n_put (k := 0) (ci := 1) (f := 3) (N := 4) (C := RX1) (T := TX1) (ty0 := tyX1) dX1_init_27 lfX1_22 inX1 tyX1_ok nmX1 rfl (by decide) rfl h rfl rfl rfl (Nat.le_of_ble_eq_true rfl) (by omega) ?_
  show Ex _ _ _ _ (hL (l0 ++ [.inr (1, [.ref (L + 1), .ref (L + 2), .int (-1), .int 0]), .inl (0, 8, .inl (fun _ => 0)), .inl (0, 8, .inl (fun _ => 0))]), L + 3, w + 16) _
  exact x_ret dX1_init_30 rfl ⟨rfl, rfl⟩
def k_X0 (L : Nat) : List xA := [.inr (0, [.ref (L + 1), .ref (L + 2), .int 0]),
    .inl (0, 8, .inl (fun _ => 0)),
    .inl (0, 8, .inl (fun _ => 0))]
set_option maxRecDepth 100000 in
theorem i_X0 {l0 : List xA} {L w : Nat} (h : l0.length = L) (hb : L + 3 ≤ 1000) : ExM 1 YX0_init [.ref L] (hL (l0 ++ [.inr (0, [.null, .null, .int 0])]), L + 1, w) (L + 3, w + 16) (fun v M' => v = none ∧ M' = (hL (l0 ++ k_X0 L), L + 3, w + 16)) := by
  refine ExM_of (by decide +kernel) (Nat.le_of_ble_eq_true rfl) (by show L + 1 ≤ 1000000; omega) (fun v M' hh => by obtain ⟨-, rfl⟩ := hh; exact ⟨Nat.le_refl _, Nat.le_refl _⟩) ?_
  refine x_aload_n dX0_init_0 rfl ?_
  refine x_obj dX0_init_1 tmX0_3 im_objinit cd_objinit (Nat.le_of_ble_eq_true rfl) (Nat.le_of_ble_eq_true rfl) ?_
  refine x_aload_n dX0_init_4 rfl ?_
  refine x_bipush (v := nI 8) dX0_init_5 (by decide) ?_
  refine n_newa (aty := .int) (t := 0) (N := 8) dX0_init_7 (by decide) ac_int (by decide) (by decide) (by decide) h rfl ⟨by dsimp only; omega, by dsimp only; omega⟩ (by omega) ?_
  refine n_putF (k := 0) (ci := 0) (f := 0) (N := 3) (C := RX0) (T := TX0) (ty0 := tyX0) dX0_init_9 lfX0_9 inX0 tyX0_ok nmX0 rfl (by decide) rfl rfl rfl h rfl rfl rfl (Nat.le_of_ble_eq_true rfl) (by omega) ?_
  show Ex _ _ _ _ (hL (l0 ++ [.inr (0, [.ref (L + 1), .null, .int 0]), .inl (0, 8, .inl (fun _ => 0))]), L + 2, w + 8) _
  refine x_aload_n dX0_init_12 rfl ?_
  refine x_bipush (v := nI 8) dX0_init_13 (by decide) ?_
  refine n_newa (aty := .int) (t := 0) (N := 8) dX0_init_15 (by decide) ac_int (by decide) (by decide) (by decide) h rfl ⟨by dsimp only; omega, by dsimp only; omega⟩ (by omega) ?_
  refine n_putF (k := 0) (ci := 0) (f := 1) (N := 3) (C := RX0) (T := TX0) (ty0 := tyX0) dX0_init_17 lfX0_15 inX0 tyX0_ok nmX0 rfl (by decide) rfl rfl rfl h rfl rfl rfl (Nat.le_of_ble_eq_true rfl) (by omega) ?_
  show Ex _ _ _ _ (hL (l0 ++ [.inr (0, [.ref (L + 1), .ref (L + 2), .int 0]), .inl (0, 8, .inl (fun _ => 0)), .inl (0, 8, .inl (fun _ => 0))]), L + 3, w + 16) _
  refine x_aload_n dX0_init_20 rfl ?_
  refine x_iconst (v := nI 0) dX0_init_21 (by decide) ?_
  refine n_put (k := 0) (ci := 0) (f := 2) (N := 3) (C := RX0) (T := TX0) (ty0 := tyX0) dX0_init_22 lfX0_18 inX0 tyX0_ok nmX0 rfl (by decide) rfl h rfl rfl rfl (Nat.le_of_ble_eq_true rfl) (by omega) ?_
  show Ex _ _ _ _ (hL (l0 ++ [.inr (0, [.ref (L + 1), .ref (L + 2), .int 0]), .inl (0, 8, .inl (fun _ => 0)), .inl (0, 8, .inl (fun _ => 0))]), L + 3, w + 16) _
  exact x_ret dX0_init_25 rfl ⟨rfl, rfl⟩
def k_X3 (L : Nat) : List xA := [.inr (3, [.ref (L + 1), .ref (L + 2), .ref (L + 3), .ref (L + 4), .ref (L + 5), .int 0, .int 30, .int 8]),
    .inl (0, 8, .inl (fun _ => 0)),
    .inl (0, 8, .inl (fun _ => 0)),
    .inl (0, 8, .inl (fun _ => 0)),
    .inl (0, 8, .inl (fun _ => 0)),
    .inl (0, 8, .inl (fun _ => 0))]
set_option maxRecDepth 100000 in
theorem i_X3 {l0 : List xA} {L w : Nat} (h : l0.length = L) (hb : L + 6 ≤ 1000) : ExM 1 YX3_init [.ref L] (hL (l0 ++ [.inr (3, [.null, .null, .null, .null, .null, .int 0, .int 0, .int 0])]), L + 1, w) (L + 6, w + 40) (fun v M' => v = none ∧ M' = (hL (l0 ++ k_X3 L), L + 6, w + 40)) := by
  refine ExM_of (by decide +kernel) (Nat.le_of_ble_eq_true rfl) (by show L + 1 ≤ 1000000; omega) (fun v M' hh => by obtain ⟨-, rfl⟩ := hh; exact ⟨Nat.le_refl _, Nat.le_refl _⟩) ?_
  refine x_aload_n dX3_init_0 rfl ?_
  refine x_obj dX3_init_1 tmX3_3 im_objinit cd_objinit (Nat.le_of_ble_eq_true rfl) (Nat.le_of_ble_eq_true rfl) ?_
  refine x_aload_n dX3_init_4 rfl ?_
  refine x_bipush (v := nI 8) dX3_init_5 (by decide) ?_
  refine n_newa (aty := .int) (t := 0) (N := 8) dX3_init_7 (by decide) ac_int (by decide) (by decide) (by decide) h rfl ⟨by dsimp only; omega, by dsimp only; omega⟩ (by omega) ?_
  refine n_putF (k := 0) (ci := 3) (f := 0) (N := 8) (C := RX3) (T := TX3) (ty0 := tyX3) dX3_init_9 lfX3_9 inX3 tyX3_ok nmX3 rfl (by decide) rfl rfl rfl h rfl rfl rfl (Nat.le_of_ble_eq_true rfl) (by omega) ?_
  show Ex _ _ _ _ (hL (l0 ++ [.inr (3, [.ref (L + 1), .null, .null, .null, .null, .int 0, .int 0, .int 0]), .inl (0, 8, .inl (fun _ => 0))]), L + 2, w + 8) _
  refine x_aload_n dX3_init_12 rfl ?_
  refine x_bipush (v := nI 8) dX3_init_13 (by decide) ?_
  refine n_newa (aty := .int) (t := 0) (N := 8) dX3_init_15 (by decide) ac_int (by decide) (by decide) (by decide) h rfl ⟨by dsimp only; omega, by dsimp only; omega⟩ (by omega) ?_
  refine n_putF (k := 0) (ci := 3) (f := 1) (N := 8) (C := RX3) (T := TX3) (ty0 := tyX3) dX3_init_17 lfX3_15 inX3 tyX3_ok nmX3 rfl (by decide) rfl rfl rfl h rfl rfl rfl (Nat.le_of_ble_eq_true rfl) (by omega) ?_
  show Ex _ _ _ _ (hL (l0 ++ [.inr (3, [.ref (L + 1), .ref (L + 2), .null, .null, .null, .int 0, .int 0, .int 0]), .inl (0, 8, .inl (fun _ => 0)), .inl (0, 8, .inl (fun _ => 0))]), L + 3, w + 16) _
  refine x_aload_n dX3_init_20 rfl ?_
  refine x_bipush (v := nI 8) dX3_init_21 (by decide) ?_
  refine n_newa (aty := .int) (t := 0) (N := 8) dX3_init_23 (by decide) ac_int (by decide) (by decide) (by decide) h rfl ⟨by dsimp only; omega, by dsimp only; omega⟩ (by omega) ?_
  refine n_putF (k := 0) (ci := 3) (f := 2) (N := 8) (C := RX3) (T := TX3) (ty0 := tyX3) dX3_init_25 lfX3_18 inX3 tyX3_ok nmX3 rfl (by decide) rfl rfl rfl h rfl rfl rfl (Nat.le_of_ble_eq_true rfl) (by omega) ?_
  show Ex _ _ _ _ (hL (l0 ++ [.inr (3, [.ref (L + 1), .ref (L + 2), .ref (L + 3), .null, .null, .int 0, .int 0, .int 0]), .inl (0, 8, .inl (fun _ => 0)), .inl (0, 8, .inl (fun _ => 0)), .inl (0, 8, .inl (fun _ => 0))]), L + 4, w + 24) _
  refine x_aload_n dX3_init_28 rfl ?_
  refine x_bipush (v := nI 8) dX3_init_29 (by decide) ?_
  refine n_newa (aty := .int) (t := 0) (N := 8) dX3_init_31 (by decide) ac_int (by decide) (by decide) (by decide) h rfl ⟨by dsimp only; omega, by dsimp only; omega⟩ (by omega) ?_
  refine n_putF (k := 0) (ci := 3) (f := 3) (N := 8) (C := RX3) (T := TX3) (ty0 := tyX3) dX3_init_33 lfX3_21 inX3 tyX3_ok nmX3 rfl (by decide) rfl rfl rfl h rfl rfl rfl (Nat.le_of_ble_eq_true rfl) (by omega) ?_
  show Ex _ _ _ _ (hL (l0 ++ [.inr (3, [.ref (L + 1), .ref (L + 2), .ref (L + 3), .ref (L + 4), .null, .int 0, .int 0, .int 0]), .inl (0, 8, .inl (fun _ => 0)), .inl (0, 8, .inl (fun _ => 0)), .inl (0, 8, .inl (fun _ => 0)), .inl (0, 8, .inl (fun _ => 0))]), L + 5, w + 32) _
  refine x_aload_n dX3_init_36 rfl ?_
  refine x_bipush (v := nI 8) dX3_init_37 (by decide) ?_
  refine n_newa (aty := .int) (t := 0) (N := 8) dX3_init_39 (by decide) ac_int (by decide) (by decide) (by decide) h rfl ⟨by dsimp only; omega, by dsimp only; omega⟩ (by omega) ?_
  refine n_putF (k := 0) (ci := 3) (f := 4) (N := 8) (C := RX3) (T := TX3) (ty0 := tyX3) dX3_init_41 lfX3_24 inX3 tyX3_ok nmX3 rfl (by decide) rfl rfl rfl h rfl rfl rfl (Nat.le_of_ble_eq_true rfl) (by omega) ?_
  show Ex _ _ _ _ (hL (l0 ++ [.inr (3, [.ref (L + 1), .ref (L + 2), .ref (L + 3), .ref (L + 4), .ref (L + 5), .int 0, .int 0, .int 0]), .inl (0, 8, .inl (fun _ => 0)), .inl (0, 8, .inl (fun _ => 0)), .inl (0, 8, .inl (fun _ => 0)), .inl (0, 8, .inl (fun _ => 0)), .inl (0, 8, .inl (fun _ => 0))]), L + 6, w + 40) _
  refine x_aload_n dX3_init_44 rfl ?_
  refine x_iconst (v := nI 0) dX3_init_45 (by decide) ?_
  refine n_put (k := 0) (ci := 3) (f := 5) (N := 8) (C := RX3) (T := TX3) (ty0 := tyX3) dX3_init_46 lfX3_27 inX3 tyX3_ok nmX3 rfl (by decide) rfl h rfl rfl rfl (Nat.le_of_ble_eq_true rfl) (by omega) ?_
  show Ex _ _ _ _ (hL (l0 ++ [.inr (3, [.ref (L + 1), .ref (L + 2), .ref (L + 3), .ref (L + 4), .ref (L + 5), .int 0, .int 0, .int 0]), .inl (0, 8, .inl (fun _ => 0)), .inl (0, 8, .inl (fun _ => 0)), .inl (0, 8, .inl (fun _ => 0)), .inl (0, 8, .inl (fun _ => 0)), .inl (0, 8, .inl (fun _ => 0))]), L + 6, w + 40) _
  refine x_aload_n dX3_init_49 rfl ?_
  refine x_bipush (v := nI 30) dX3_init_50 (by decide) ?_
  refine n_put (k := 0) (ci := 3) (f := 6) (N := 8) (C := RX3) (T := TX3) (ty0 := tyX3) dX3_init_52 lfX3_31 inX3 tyX3_ok nmX3 rfl (by decide) rfl h rfl rfl rfl (Nat.le_of_ble_eq_true rfl) (by omega) ?_
  show Ex _ _ _ _ (hL (l0 ++ [.inr (3, [.ref (L + 1), .ref (L + 2), .ref (L + 3), .ref (L + 4), .ref (L + 5), .int 0, .int 30, .int 0]), .inl (0, 8, .inl (fun _ => 0)), .inl (0, 8, .inl (fun _ => 0)), .inl (0, 8, .inl (fun _ => 0)), .inl (0, 8, .inl (fun _ => 0)), .inl (0, 8, .inl (fun _ => 0))]), L + 6, w + 40) _
  refine x_aload_n dX3_init_55 rfl ?_
  refine x_bipush (v := nI 8) dX3_init_56 (by decide) ?_
  refine n_put (k := 0) (ci := 3) (f := 7) (N := 8) (C := RX3) (T := TX3) (ty0 := tyX3) dX3_init_58 lfX3_34 inX3 tyX3_ok nmX3 rfl (by decide) rfl h rfl rfl rfl (Nat.le_of_ble_eq_true rfl) (by omega) ?_
  show Ex _ _ _ _ (hL (l0 ++ [.inr (3, [.ref (L + 1), .ref (L + 2), .ref (L + 3), .ref (L + 4), .ref (L + 5), .int 0, .int 30, .int 8]), .inl (0, 8, .inl (fun _ => 0)), .inl (0, 8, .inl (fun _ => 0)), .inl (0, 8, .inl (fun _ => 0)), .inl (0, 8, .inl (fun _ => 0)), .inl (0, 8, .inl (fun _ => 0))]), L + 6, w + 40) _
  exact x_ret dX3_init_61 rfl ⟨rfl, rfl⟩
def k_X6 (L : Nat) : List xA := [.inr (6, [.ref (L + 1), .ref (L + 2), .int 0]),
    .inl (0, 6, .inl (fun _ => 0)),
    .inl (0, 6, .inl (fun _ => 0))]
set_option maxRecDepth 100000 in
theorem i_X6 {l0 : List xA} {L w : Nat} (h : l0.length = L) (hb : L + 3 ≤ 1000) : ExM 1 YX6_init [.ref L] (hL (l0 ++ [.inr (6, [.null, .null, .int 0])]), L + 1, w) (L + 3, w + 12) (fun v M' => v = none ∧ M' = (hL (l0 ++ k_X6 L), L + 3, w + 12)) := by
  refine ExM_of (by decide +kernel) (Nat.le_of_ble_eq_true rfl) (by show L + 1 ≤ 1000000; omega) (fun v M' hh => by obtain ⟨-, rfl⟩ := hh; exact ⟨Nat.le_refl _, Nat.le_refl _⟩) ?_
  refine x_aload_n dX6_init_0 rfl ?_
  refine x_obj dX6_init_1 tmX6_3 im_objinit cd_objinit (Nat.le_of_ble_eq_true rfl) (Nat.le_of_ble_eq_true rfl) ?_
  refine x_aload_n dX6_init_4 rfl ?_
  refine x_bipush (v := nI 6) dX6_init_5 (by decide) ?_
  refine n_newa (aty := .int) (t := 0) (N := 6) dX6_init_7 (by decide) ac_int (by decide) (by decide) (by decide) h rfl ⟨by dsimp only; omega, by dsimp only; omega⟩ (by omega) ?_
  refine n_putF (k := 0) (ci := 6) (f := 0) (N := 3) (C := RX6) (T := TX6) (ty0 := tyX6) dX6_init_9 lfX6_9 inX6 tyX6_ok nmX6 rfl (by decide) rfl rfl rfl h rfl rfl rfl (Nat.le_of_ble_eq_true rfl) (by omega) ?_
  show Ex _ _ _ _ (hL (l0 ++ [.inr (6, [.ref (L + 1), .null, .int 0]), .inl (0, 6, .inl (fun _ => 0))]), L + 2, w + 6) _
  refine x_aload_n dX6_init_12 rfl ?_
  refine x_bipush (v := nI 6) dX6_init_13 (by decide) ?_
  refine n_newa (aty := .int) (t := 0) (N := 6) dX6_init_15 (by decide) ac_int (by decide) (by decide) (by decide) h rfl ⟨by dsimp only; omega, by dsimp only; omega⟩ (by omega) ?_
  refine n_putF (k := 0) (ci := 6) (f := 1) (N := 3) (C := RX6) (T := TX6) (ty0 := tyX6) dX6_init_17 lfX6_15 inX6 tyX6_ok nmX6 rfl (by decide) rfl rfl rfl h rfl rfl rfl (Nat.le_of_ble_eq_true rfl) (by omega) ?_
  show Ex _ _ _ _ (hL (l0 ++ [.inr (6, [.ref (L + 1), .ref (L + 2), .int 0]), .inl (0, 6, .inl (fun _ => 0)), .inl (0, 6, .inl (fun _ => 0))]), L + 3, w + 12) _
  refine x_aload_n dX6_init_20 rfl ?_
  refine x_iconst (v := nI 0) dX6_init_21 (by decide) ?_
  refine n_put (k := 0) (ci := 6) (f := 2) (N := 3) (C := RX6) (T := TX6) (ty0 := tyX6) dX6_init_22 lfX6_18 inX6 tyX6_ok nmX6 rfl (by decide) rfl h rfl rfl rfl (Nat.le_of_ble_eq_true rfl) (by omega) ?_
  show Ex _ _ _ _ (hL (l0 ++ [.inr (6, [.ref (L + 1), .ref (L + 2), .int 0]), .inl (0, 6, .inl (fun _ => 0)), .inl (0, 6, .inl (fun _ => 0))]), L + 3, w + 12) _
  exact x_ret dX6_init_25 rfl ⟨rfl, rfl⟩
def k_X7 (L : Nat) : List xA := [.inr (7, [.ref (L + 1), .int 0, .int 0, .int 0, .int 0]),
    .inl (1, 160, .inl (fun _ => 0))]
set_option maxRecDepth 100000 in
theorem i_X7 {l0 : List xA} {L w : Nat} (h : l0.length = L) (hb : L + 2 ≤ 1000) : ExM 1 YX7_init [.ref L] (hL (l0 ++ [.inr (7, [.null, .int 0, .int 0, .int 0, .int 0])]), L + 1, w) (L + 2, w + 160) (fun v M' => v = none ∧ M' = (hL (l0 ++ k_X7 L), L + 2, w + 160)) := by
  refine ExM_of (by decide +kernel) (Nat.le_of_ble_eq_true rfl) (by show L + 1 ≤ 1000000; omega) (fun v M' hh => by obtain ⟨-, rfl⟩ := hh; exact ⟨Nat.le_refl _, Nat.le_refl _⟩) ?_
  refine x_aload_n dX7_init_0 rfl ?_
  refine x_obj dX7_init_1 tmX7_3 im_objinit cd_objinit (Nat.le_of_ble_eq_true rfl) (Nat.le_of_ble_eq_true rfl) ?_
  refine x_aload_n dX7_init_4 rfl ?_
  refine x_sipush (v := nI 160) dX7_init_5 (by decide) ?_
  refine n_newa (aty := .char) (t := 1) (N := 160) dX7_init_8 (by decide) ac_char (by decide) (by decide) (by decide) h rfl ⟨by dsimp only; omega, by dsimp only; omega⟩ (by omega) ?_
  refine n_putF (k := 0) (ci := 7) (f := 0) (N := 5) (C := RX7) (T := TX7) (ty0 := tyX7) dX7_init_10 lfX7_9 inX7 tyX7_ok nmX7 rfl (by decide) rfl rfl rfl h rfl rfl rfl (Nat.le_of_ble_eq_true rfl) (by omega) ?_
  show Ex _ _ _ _ (hL (l0 ++ [.inr (7, [.ref (L + 1), .int 0, .int 0, .int 0, .int 0]), .inl (1, 160, .inl (fun _ => 0))]), L + 2, w + 160) _
  refine x_aload_n dX7_init_13 rfl ?_
  refine x_iconst (v := nI 0) dX7_init_14 (by decide) ?_
  refine n_put (k := 0) (ci := 7) (f := 1) (N := 5) (C := RX7) (T := TX7) (ty0 := tyX7) dX7_init_15 lfX7_15 inX7 tyX7_ok nmX7 rfl (by decide) rfl h rfl rfl rfl (Nat.le_of_ble_eq_true rfl) (by omega) ?_
  show Ex _ _ _ _ (hL (l0 ++ [.inr (7, [.ref (L + 1), .int 0, .int 0, .int 0, .int 0]), .inl (1, 160, .inl (fun _ => 0))]), L + 2, w + 160) _
  refine x_aload_n dX7_init_18 rfl ?_
  refine x_iconst (v := nI 0) dX7_init_19 (by decide) ?_
  refine n_put (k := 0) (ci := 7) (f := 2) (N := 5) (C := RX7) (T := TX7) (ty0 := tyX7) dX7_init_20 lfX7_19 inX7 tyX7_ok nmX7 rfl (by decide) rfl h rfl rfl rfl (Nat.le_of_ble_eq_true rfl) (by omega) ?_
  show Ex _ _ _ _ (hL (l0 ++ [.inr (7, [.ref (L + 1), .int 0, .int 0, .int 0, .int 0]), .inl (1, 160, .inl (fun _ => 0))]), L + 2, w + 160) _
  refine x_aload_n dX7_init_23 rfl ?_
  refine x_iconst (v := nI 0) dX7_init_24 (by decide) ?_
  refine n_put (k := 0) (ci := 7) (f := 3) (N := 5) (C := RX7) (T := TX7) (ty0 := tyX7) dX7_init_25 lfX7_22 inX7 tyX7_ok nmX7 rfl (by decide) rfl h rfl rfl rfl (Nat.le_of_ble_eq_true rfl) (by omega) ?_
  show Ex _ _ _ _ (hL (l0 ++ [.inr (7, [.ref (L + 1), .int 0, .int 0, .int 0, .int 0]), .inl (1, 160, .inl (fun _ => 0))]), L + 2, w + 160) _
  refine x_aload_n dX7_init_28 rfl ?_
  refine x_iconst (v := nI 0) dX7_init_29 (by decide) ?_
  refine n_put (k := 0) (ci := 7) (f := 4) (N := 5) (C := RX7) (T := TX7) (ty0 := tyX7) dX7_init_30 lfX7_25 inX7 tyX7_ok nmX7 rfl (by decide) rfl h rfl rfl rfl (Nat.le_of_ble_eq_true rfl) (by omega) ?_
  show Ex _ _ _ _ (hL (l0 ++ [.inr (7, [.ref (L + 1), .int 0, .int 0, .int 0, .int 0]), .inl (1, 160, .inl (fun _ => 0))]), L + 2, w + 160) _
  exact x_ret dX7_init_33 rfl ⟨rfl, rfl⟩
