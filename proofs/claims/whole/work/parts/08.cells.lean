/-! ===== Ex: fields and arrays written, new cells, the JDK's copies, max and min ===== -/
theorem xv_narrow {ad : Nat → Nat} {ty : FieldType} {v : Value} (h : narrow ty v = v) : narrow ty (xv ad v) = xv ad v := by
  cases v <;> first | exact h | (cases ty <;> rfl)
theorem xv_fits {ad : Nat → Nat} {ty : FieldType} {v : Value} (h : fits ty v = true) : fits ty (xv ad v) = true := by
  cases v <;> first | exact h | (cases ty <;> first | exact h | rfl)
theorem xcat_sum {ad : Nat → Nat} {S : List Value} (h : S.length ≤ 4) : ((S.map (xv ad)).map fun v => v.category).sum ≤ 8 := by
  have h2 : ∀ (T : List Value), ((T.map (xv ad)).map fun v => v.category).sum ≤ 2 * T.length := by
    intro T
    induction T with
    | nil => exact Nat.le_refl _
    | cons v T ih =>
      have hv : (xv ad v).category ≤ 2 := by rw [xv_cat]; cases v <;> simp [Value.category]
      simp only [List.map_cons, List.sum_cons, List.length_cons]
      omega
  have h3 := h2 S
  omega
section XP
variable {E : xE} {pc : Nat} {L S : List Value} {M : xM} {Q Q' : Option Value → xM → Prop}
theorem xw_link {D : va_G} {dA : Nat → ClassId} {ad : Nat → Nat} {h0 : Nat} {U : State} {H : Heap} {A : Array Value} {w : Cond} (h : xG D dA ad h0 U H) (hw : w ∈ xN) : w.before A U = true := (h.2.1 _ hw).use (xN_tab hw)
/-- putfield -/
theorem x_put {a ci k index N : Nat} {fs : List Value} {v : Value} {C : String} {T : u_T} {ty0 : Nat → FieldType} (hd : decode E.1.2.1 pc = .ok (.putfield index, 3)) (hlink : Cond.fieldLink E.1.1.cls index (T k).1 (T k).2.1 (T k).2.2.1 ∈ xT) (hin : ∀ w ∈ u_ws C T N, w ∈ xT) (hty : ∀ k, k < N → parseFieldDescriptor (T k).2.2.1 = some (ty0 k)) (hnm : ∀ a, a < N → ∀ b, b < N → a ≠ b → (T a).2.1 ≠ (T b).2.1) (hc : vwCl[ci]? = some (C, T, N)) (hk : k < N) (hfin : (T k).2.2.2 = false) (ha : a < M.2.1) (hM : M.1 a = .inr (ci, fs)) (hn : narrow (ty0 k) v = v) (hfit : fits (ty0 k) v = true) (hl0 : k < fs.length) (kk : Ex E (pc + 3) L S (xu M.1 a (.inr (ci, fs.set k v)), M.2) Q) : Ex E pc L (v :: .ref a :: S) M Q := by
  intro p l e R s m args below meth c D dA ad h0 nb wb Qf cX K H locs ls I hl
  obtain ⟨hx, hb, hml, hown, hts, hret, hini, hfr, hlo, hce, hsl, had, hh0, hG, hZ⟩ := id cX
  have hap := va_apart (own := E.1.1.cls) hts hin ty0 hty hnm hG.1 hc
  have hP := I.1 a ha
  rw [hM] at hP
  obtain ⟨r, h1, cell, q1, q2, q3, q4⟩ := hP
  have hr : r = (C, T, N) := Option.some.inj (h1.symm.trans hc)
  subst hr
  obtain ⟨hSl, hfc, kC, hkC, hkind⟩ := hG.1.1 ci _ hc
  obtain ⟨cf, kf, fi, f, hi, hsl'⟩ := hSl k hk
  have hlay := hts _ (hin _ (u_in_lay hk))
  unfold u_lay at hlay
  rw [if_neg (by rw [hfin]; decide)] at hlay
  have hst := (u_facts hfc hkC (u_lays hts hin hk) hi).1
  have h6 := u_store hfc hkC hkind hlay hi (hty k hk) (xv_narrow (ad := ad) hn) (xv_fits (ad := ad) hfit)
  refine W.putK hx hb (f := f) ⟨hown, hts _ hlink, ⟨_, _, _, hi⟩, hst⟩ (by rw [q2]; exact h6) q1 q3 (by rw [hsl']; exact k2_hasslot (q4 k hk)) rfl rfl hd fun H' e1 e2 e3 => ?_
  rw [hsl'] at e1 ⊢
  refine kk p l e R s m args below meth c D dA ad h0 nb wb Qf cX K H' _ ls (xI_put had I ha ?_ e2 e3 (fun l h => by rw [List.mem_singleton.mp h])) hl
  exact ⟨_, hc, t_OB.to (V := updV (vp_V (fs.map (xv ad))) k (xv ad v)) ⟨_, e1, q2, q3, t_set q4 hap hk (xv ad v)⟩ (fun j _ => by rw [List.map_set]; exact vp_updV_set (by rw [List.length_map]; exact hl0) (xv ad v) j)⟩
theorem x_putN {a ci k index N : Nat} {fs : List Value} {v : Value} {C host : String} {T : u_T} {ty0 : Nat → FieldType} (hd : decode E.1.2.1 pc = .ok (.putfield index, 3)) (hlink : Cond.fieldLinkNest E.1.1.cls index (T k).1 (T k).2.1 (T k).2.2.1 host ∈ xN) (hin : ∀ w ∈ u_ws C T N, w ∈ xT) (hty : ∀ k, k < N → parseFieldDescriptor (T k).2.2.1 = some (ty0 k)) (hnm : ∀ a, a < N → ∀ b, b < N → a ≠ b → (T a).2.1 ≠ (T b).2.1) (hc : vwCl[ci]? = some (C, T, N)) (hk : k < N) (hfin : (T k).2.2.2 = false) (ha : a < M.2.1) (hM : M.1 a = .inr (ci, fs)) (hn : narrow (ty0 k) v = v) (hfit : fits (ty0 k) v = true) (hl0 : k < fs.length) (kk : Ex E (pc + 3) L S (xu M.1 a (.inr (ci, fs.set k v)), M.2) Q) : Ex E pc L (v :: .ref a :: S) M Q := by
  intro p l e R s m args below meth c D dA ad h0 nb wb Qf cX K H locs ls I hl
  obtain ⟨hx, hb, hml, hown, hts, hret, hini, hfr, hlo, hce, hsl, had, hh0, hG, hZ⟩ := id cX
  have hap := va_apart (own := E.1.1.cls) hts hin ty0 hty hnm hG.1 hc
  have hP := I.1 a ha
  rw [hM] at hP
  obtain ⟨r, h1, cell, q1, q2, q3, q4⟩ := hP
  have hr : r = (C, T, N) := Option.some.inj (h1.symm.trans hc)
  subst hr
  obtain ⟨hSl, hfc, kC, hkC, hkind⟩ := hG.1.1 ci _ hc
  obtain ⟨cf, kf, fi, f, hi, hsl'⟩ := hSl k hk
  have hlay := hts _ (hin _ (u_in_lay hk))
  unfold u_lay at hlay
  rw [if_neg (by rw [hfin]; decide)] at hlay
  have hst := (u_facts hfc hkC (u_lays hts hin hk) hi).1
  have h6 := u_store hfc hkC hkind hlay hi (hty k hk) (xv_narrow (ad := ad) hn) (xv_fits (ad := ad) hfit)
  refine va_WputK hx hb (f := f) hown (xw_link hG hlink) hi hst (by rw [q2]; exact h6) q1 q3 (by rw [hsl']; exact k2_hasslot (q4 k hk)) rfl rfl hd fun H' e1 e2 e3 => ?_
  rw [hsl'] at e1 ⊢
  refine kk p l e R s m args below meth c D dA ad h0 nb wb Qf cX K H' _ ls (xI_put had I ha ?_ e2 e3 (fun l h => by rw [List.mem_singleton.mp h])) hl
  exact ⟨_, hc, t_OB.to (V := updV (vp_V (fs.map (xv ad))) k (xv ad v)) ⟨_, e1, q2, q3, t_set q4 hap hk (xv ad v)⟩ (fun j _ => by rw [List.map_set]; exact vp_updV_set (by rw [List.length_map]; exact hl0) (xv ad v) j)⟩
/-- putfield of a final field, in a constructor -/
theorem x_putF {a ci k index N : Nat} {fs : List Value} {v : Value} {C : String} {T : u_T} {ty0 : Nat → FieldType} (hd : decode E.1.2.1 pc = .ok (.putfield index, 3)) (hlink : Cond.fieldLink E.1.1.cls index (T k).1 (T k).2.1 (T k).2.2.1 ∈ xT) (hin : ∀ w ∈ u_ws C T N, w ∈ xT) (hty : ∀ k, k < N → parseFieldDescriptor (T k).2.2.1 = some (ty0 k)) (hnm : ∀ a, a < N → ∀ b, b < N → a ≠ b → (T a).2.1 ≠ (T b).2.1) (hc : vwCl[ci]? = some (C, T, N)) (hk : k < N) (hfin : (T k).2.2.2 = true) (hI : E.1.1.name = "<init>") (hdecl : (T k).1 = E.1.1.cls) (ha : a < M.2.1) (hM : M.1 a = .inr (ci, fs)) (hn : narrow (ty0 k) v = v) (hfit : fits (ty0 k) v = true) (hl0 : k < fs.length) (kk : Ex E (pc + 3) L S (xu M.1 a (.inr (ci, fs.set k v)), M.2) Q) : Ex E pc L (v :: .ref a :: S) M Q := by
  intro p l e R s m args below meth c D dA ad h0 nb wb Qf cX K H locs ls I hl
  obtain ⟨hx, hb, hml, hown, hts, hret, hini, hfr, hlo, hce, hsl, had, hh0, hG, hZ⟩ := id cX
  have hap := va_apart (own := E.1.1.cls) hts hin ty0 hty hnm hG.1 hc
  have hP := I.1 a ha
  rw [hM] at hP
  obtain ⟨r, h1, cell, q1, q2, q3, q4⟩ := hP
  have hr : r = (C, T, N) := Option.some.inj (h1.symm.trans hc)
  subst hr
  obtain ⟨hSl, hfc, kC, hkC, hkind⟩ := hG.1.1 ci _ hc
  obtain ⟨cf, kf, fi, f, hi, hsl'⟩ := hSl k hk
  have hlay := hts _ (hin _ (u_in_lay hk))
  unfold u_lay at hlay
  rw [if_pos hfin] at hlay
  have hst := (u_facts hfc hkC (u_lays hts hin hk) hi).1
  have hcf : m.cls = cf := by
    obtain ⟨_, _, c', _, _, _, -, -, hf', -, -, -, hown2, -⟩ := Cond.laysFinal_spec hlay
    have e1 : c' = cf := by have := hi.symm.trans hf'; simp at this; exact this.1.symm
    rw [hdecl] at hown2
    rw [← e1]; exact Option.some.inj (hown.symm.trans hown2)
  have h6 := u_fits hfc hkC hkind (Or.inr hlay) hi (hty k hk) (xv_narrow (ad := ad) hn) (xv_fits (ad := ad) hfit)
  refine W.putFinK hx hb hown (hts _ hlink) hi hst hcf (hini hI) (by rw [q2]; exact h6) q1 q3 (by rw [hsl']; exact k2_hasslot (q4 k hk)) rfl rfl hd fun H' e1 e2 e3 => ?_
  rw [hsl'] at e1 ⊢
  refine kk p l e R s m args below meth c D dA ad h0 nb wb Qf cX K H' _ ls (xI_put had I ha ?_ e2 e3 (fun l h => by rw [List.mem_singleton.mp h])) hl
  exact ⟨_, hc, t_OB.to (V := updV (vp_V (fs.map (xv ad))) k (xv ad v)) ⟨_, e1, q2, q3, t_set q4 hap hk (xv ad v)⟩ (fun j _ => by rw [List.map_set]; exact vp_updV_set (by rw [List.length_map]; exact hl0) (xv ad v) j)⟩
/-- arraylength -/
theorem x_alen {a t n : Nat} {f : Nat → Int32} (hd : decode E.1.2.1 pc = .ok (.arraylength, 1)) (ha : a < M.2.1) (hM : M.1 a = .inl (t, n, .inl f)) (ht : t < 3) (kk : Ex E (pc + 1) L (.int (nI n) :: S) M Q) : Ex E pc L (.ref a :: S) M Q := by
  intro p l e R s m args below meth c D dA ad h0 nb wb Qf cX K H locs ls I hl
  obtain ⟨hx, hb, hml, hown, hts, hret, hini, hfr, hlo, hce, hsl, had, hh0, hG, hZ⟩ := id cX
  have hP := xP_one (I.1 a ha)
  rw [hM] at hP
  have key : ∀ (ty : FieldType) (t0 : Nat), (xtys dA)[t0]? = some (dA t, ty) → W p l e R s m args below meth c H locs (M.2.1 - nb) (M.2.2 - wb) Qf (F0 m pc ls ((Value.ref a :: S).map (xv ad))) := fun ty t0 h => va_alen hx hb hG.1 hP 0 t0 rfl h rfl hd (kk p l e R s m args below meth c D dA ad h0 nb wb Qf cX K H locs ls I hl)
  match t, ht with
  | 0, _ => exact key .int 0 rfl
  | 1, _ => exact key .char 1 rfl
  | 2, _ => exact key .boolean 2 rfl
theorem x_iald {a n : Nat} {f : Nat → Int32} {i : Int32} (hd : decode E.1.2.1 pc = .ok (.iaload, 1)) (ha : a < M.2.1) (hM : M.1 a = .inl (0, n, .inl f)) (hi : vp_in i n) (kk : Ex E (pc + 1) L (.int (f i.toNatClampNeg) :: S) M Q) : Ex E pc L (.int i :: .ref a :: S) M Q := by
  intro p l e R s m args below meth c D dA ad h0 nb wb Qf cX K H locs ls I hl
  obtain ⟨hx, hb, hml, hown, hts, hret, hini, hfr, hlo, hce, hsl, had, hh0, hG, hZ⟩ := id cX
  have hP := xP_one (I.1 a ha)
  rw [hM] at hP
  exact va_iald hx hb hG.1 hP 0 0 rfl rfl hi hd (kk p l e R s m args below meth c D dA ad h0 nb wb Qf cX K H locs ls I hl)
theorem x_cald {a n : Nat} {f : Nat → Int32} {i : Int32} (hd : decode E.1.2.1 pc = .ok (.caload, 1)) (ha : a < M.2.1) (hM : M.1 a = .inl (1, n, .inl f)) (hi : vp_in i n) (kk : Ex E (pc + 1) L (.int (f i.toNatClampNeg) :: S) M Q) : Ex E pc L (.int i :: .ref a :: S) M Q := by
  intro p l e R s m args below meth c D dA ad h0 nb wb Qf cX K H locs ls I hl
  obtain ⟨hx, hb, hml, hown, hts, hret, hini, hfr, hlo, hce, hsl, had, hh0, hG, hZ⟩ := id cX
  have hP := xP_one (I.1 a ha)
  rw [hM] at hP
  exact va_cald hx hb hG.1 hP 0 1 rfl rfl hi hd (kk p l e R s m args below meth c D dA ad h0 nb wb Qf cX K H locs ls I hl)
theorem x_zald {a n : Nat} {f : Nat → Int32} {i : Int32} (hd : decode E.1.2.1 pc = .ok (.baload, 1)) (ha : a < M.2.1) (hM : M.1 a = .inl (2, n, .inl f)) (hi : vp_in i n) (kk : Ex E (pc + 1) L (.int (f i.toNatClampNeg) :: S) M Q) : Ex E pc L (.int i :: .ref a :: S) M Q := by
  intro p l e R s m args below meth c D dA ad h0 nb wb Qf cX K H locs ls I hl
  obtain ⟨hx, hb, hml, hown, hts, hret, hini, hfr, hlo, hce, hsl, had, hh0, hG, hZ⟩ := id cX
  have hP := xP_one (I.1 a ha)
  rw [hM] at hP
  exact va_zald hx hb hG.1 hP 0 2 rfl rfl hi hd (kk p l e R s m args below meth c D dA ad h0 nb wb Qf cX K H locs ls I hl)
theorem x_aald {a n b : Nat} {g : Nat → Option Nat} {i : Int32} (hd : decode E.1.2.1 pc = .ok (.aaload, 1)) (ha : a < M.2.1) (hM : M.1 a = .inl (3, n, .inr (.inr (.inr (.inr g))))) (hi : vp_in i n) (hg : g i.toNatClampNeg = some b) (kk : Ex E (pc + 1) L (.ref b :: S) M Q) : Ex E pc L (.int i :: .ref a :: S) M Q := by
  intro p l e R s m args below meth c D dA ad h0 nb wb Qf cX K H locs ls I hl
  obtain ⟨hx, hb, hml, hown, hts, hret, hini, hfr, hlo, hce, hsl, had, hh0, hG, hZ⟩ := id cX
  have hP := xP_one (I.1 a ha)
  rw [hM] at hP
  refine va_aldq hx hb hG.1 hP 0 3 rfl rfl hi hd ?_
  rw [hg]
  exact kk p l e R s m args below meth c D dA ad h0 nb wb Qf cX K H locs ls I hl
theorem x_iast {a n : Nat} {f : Nat → Int32} {i x : Int32} (hd : decode E.1.2.1 pc = .ok (.iastore, 1)) (ha : a < M.2.1) (hM : M.1 a = .inl (0, n, .inl f)) (hi : vp_in i n) (kk : Ex E (pc + 1) L S (xu M.1 a (.inl (0, n, .inl (upd f i.toNatClampNeg x))), M.2) Q) : Ex E pc L (.int x :: .int i :: .ref a :: S) M Q := by
  intro p l e R s m args below meth c D dA ad h0 nb wb Qf cX K H locs ls I hl
  obtain ⟨hx, hb, hml, hown, hts, hret, hini, hfr, hlo, hce, hsl, had, hh0, hG, hZ⟩ := id cX
  have hP := I.1 a ha
  rw [hM] at hP
  refine W.iast hx hb hP ((hG.1.2 0 _ rfl).1 n (fun j => .int (f j))) (fun q => by cases q) (by show ¬ (i < 0 ∨ (arrV _ _ _).slots.size ≤ _); rw [arrV_size]; exact hi) rfl rfl hd fun H1 e1 z oq => ?_
  refine kk p l e R s m args below meth c D dA ad h0 nb wb Qf cX K H1 _ ls (xI_put had I ha ?_ z oq (fun l h => by rw [List.mem_singleton.mp h])) hl
  show H1[ad a]? = some (vp_cell _ _)
  rw [e1]
  rw [vp_cell_i, vp_cell_i, arrV_store]
  congr 2
  funext q
  by_cases hq : q = i.toNatClampNeg
  · subst hq
    simp [updV, upd, vp_nar]
    try rfl
  · simp [updV, upd, hq]
theorem x_cast {a n : Nat} {f : Nat → Int32} {i x : Int32} (hd : decode E.1.2.1 pc = .ok (.castore, 1)) (ha : a < M.2.1) (hM : M.1 a = .inl (1, n, .inl f)) (hi : vp_in i n) (kk : Ex E (pc + 1) L S (xu M.1 a (.inl (1, n, .inl (upd f i.toNatClampNeg (vp_nar .char x)))), M.2) Q) : Ex E pc L (.int x :: .int i :: .ref a :: S) M Q := by
  intro p l e R s m args below meth c D dA ad h0 nb wb Qf cX K H locs ls I hl
  obtain ⟨hx, hb, hml, hown, hts, hret, hini, hfr, hlo, hce, hsl, had, hh0, hG, hZ⟩ := id cX
  have hP := I.1 a ha
  rw [hM] at hP
  refine W.cast hx hb hP ((hG.1.2 1 _ rfl).1 n (fun j => .int (f j))) (fun q => by cases q) (by show ¬ (i < 0 ∨ (arrV _ _ _).slots.size ≤ _); rw [arrV_size]; exact hi) rfl rfl hd fun H1 e1 z oq => ?_
  refine kk p l e R s m args below meth c D dA ad h0 nb wb Qf cX K H1 _ ls (xI_put had I ha ?_ z oq (fun l h => by rw [List.mem_singleton.mp h])) hl
  show H1[ad a]? = some (vp_cell _ _)
  rw [e1]
  rw [vp_cell_i, vp_cell_i, arrV_store]
  congr 2
  funext q
  by_cases hq : q = i.toNatClampNeg
  · subst hq
    simp [updV, upd, vp_nar]
    try rfl
  · simp [updV, upd, hq]
theorem x_zast {a n : Nat} {f : Nat → Int32} {i x : Int32} (hd : decode E.1.2.1 pc = .ok (.bastore, 1)) (ha : a < M.2.1) (hM : M.1 a = .inl (2, n, .inl f)) (hi : vp_in i n) (kk : Ex E (pc + 1) L S (xu M.1 a (.inl (2, n, .inl (upd f i.toNatClampNeg (vp_nar .boolean x)))), M.2) Q) : Ex E pc L (.int x :: .int i :: .ref a :: S) M Q := by
  intro p l e R s m args below meth c D dA ad h0 nb wb Qf cX K H locs ls I hl
  obtain ⟨hx, hb, hml, hown, hts, hret, hini, hfr, hlo, hce, hsl, had, hh0, hG, hZ⟩ := id cX
  have hP := I.1 a ha
  rw [hM] at hP
  refine W.zast hx hb hP ((hG.1.2 2 _ rfl).1 n (fun j => .int (f j))) (fun q => by cases q) (by show ¬ (i < 0 ∨ (arrV _ _ _).slots.size ≤ _); rw [arrV_size]; exact hi) rfl rfl hd fun H1 e1 z oq => ?_
  refine kk p l e R s m args below meth c D dA ad h0 nb wb Qf cX K H1 _ ls (xI_put had I ha ?_ z oq (fun l h => by rw [List.mem_singleton.mp h])) hl
  show H1[ad a]? = some (vp_cell _ _)
  rw [e1]
  rw [vp_cell_i, vp_cell_i, arrV_store]
  congr 2
  funext q
  by_cases hq : q = i.toNatClampNeg
  · subst hq
    simp [updV, upd, vp_nar]
    try rfl
  · simp [updV, upd, hq]
theorem x_aast {a n b ci N : Nat} {fs : List Value} {T : u_T} {g : Nat → Option Nat} {i : Int32} (hd : decode E.1.2.1 pc = .ok (.aastore, 1)) (ha : a < M.2.1) (hM : M.1 a = .inl (3, n, .inr (.inr (.inr (.inr g))))) (hi : vp_in i n) (hb9 : b < M.2.1) (hMb : M.1 b = .inr (ci, fs)) (hc : vwCl[ci]? = some (RX1, T, N)) (kk : Ex E (pc + 1) L S (xu M.1 a (.inl (3, n, .inr (.inr (.inr (.inr (va_up g i.toNatClampNeg (some b))))))), M.2) Q) : Ex E pc L (.ref b :: .int i :: .ref a :: S) M Q := by
  intro p l e R s m args below meth c D dA ad h0 nb wb Qf cX K H locs ls I hl
  obtain ⟨hx, hb, hml, hown, hts, hret, hini, hfr, hlo, hce, hsl, had, hh0, hG, hZ⟩ := id cX
  have hP := I.1 a ha
  rw [hM] at hP
  have hv := I.1 b hb9
  rw [hMb] at hv
  obtain ⟨r', hr', cellV, g1, g2, g3, -⟩ := hv
  have hcls := (hG.1.1 ci _ hc).2
  obtain ⟨kA, comp, k1, k2, k3, -⟩ := (hG.1.2 3 _ rfl).2
  have hcomp : comp = D.1 ci := Option.some.inj (k3.symm.trans hcls.1)
  subst hcomp
  obtain ⟨kC, hkC, -⟩ := hcls.2
  have h0' : ¬ i < 0 := fun h => hi (Or.inl h)
  have hlt : i.toNatClampNeg < n := Nat.lt_of_not_le (fun h => hi (Or.inr h))
  refine W.aast hx hb hP (fun q h => by cases h) (fun h => by cases h) k1 k2 rfl hkC ⟨h0', by show _ < (arrV _ _ _).slots.size; rw [arrV_size]; exact hlt⟩ g1 (fun q h => by rw [g3] at h; cases h) (by rw [g2]; exact hkC) (by rw [g2]; exact va_assign hcls) rfl rfl hd fun H1 e1 z oq => ?_
  refine kk p l e R s m args below meth c D dA ad h0 nb wb Qf cX K H1 _ ls (xI_put had I ha ?_ z oq (fun l h => by rw [List.mem_singleton.mp h])) hl
  show H1[ad a]? = some (vp_cell _ _)
  rw [e1]
  rw [vp_cell_q, vp_cell_q, arrV_store]
  congr 2
  funext q
  by_cases hq : q = i.toNatClampNeg
  · subst hq
    simp [updV, va_up, va_rf]
  · simp [updV, va_up, hq]
/-- new cells -/
theorem x_new {ci index N : Nat} {fs : List Value} {C : String} {T : u_T} {ty : Nat → FieldType} (hd : decode E.1.2.1 pc = .ok (.new index, 3)) (hcl : Cond.classLink E.1.1.cls index C ∈ xT) (hins : Cond.instantiable C N ∈ xT) (hii : Cond.initialized C ∈ xT) (hin : ∀ w ∈ u_ws C T N, w ∈ xT) (hty : ∀ k, k < N → parseFieldDescriptor (T k).2.2.1 = some (ty k)) (hc : vwCl[ci]? = some (C, T, N)) (hfs : ∀ ad : Nat → Nat, ∀ j, j < N → defaultValue (ty j) = vp_V (fs.map (xv ad)) j) (hB : M.2.1 + 1 ≤ E.2.2.1.1 ∧ M.2.2 + N ≤ E.2.2.1.2) (hn : M.2.1 < 1000000) (kk : Ex E (pc + 3) L (.ref M.2.1 :: S) (xu M.1 M.2.1 (.inr (ci, fs)), M.2.1 + 1, M.2.2 + N) Q) : Ex E pc L S M Q := by
  intro p l e R s m args below meth c D dA ad h0 nb wb Qf cX K H locs ls I hl
  obtain ⟨hx, hb, hml, hown, hts, hret, hini, hfr, hlo, hce, hsl, had, hh0, hG, hZ⟩ := id cX
  obtain ⟨i1, i2, i3, i4, i5, i6, i7⟩ := id I
  have hKn := hG.1.1 ci _ hc
  refine W.newcK hx hb hown (hts _ hcl) (hts _ hins) (hts _ hii) rfl hd (by omega) (by omega) hKn.2.1 i2 fun H1 kC hkC e1 z1 o1 => ?_
  have k := kk p l e R s m args below meth c D dA ad h0 nb wb Qf cX K H1 locs ls (xI_new had I hn (c := .inr (ci, fs)) (k := N) ?_ (by rw [z1, i2]) (fun q hq => o1 q (by rw [← i2]; exact hq))) hl
  · refine W.cs (by dsimp only; omega) (by dsimp only; omega) (W.eq ?_ k)
    show F0 m (pc + 3) ls (.ref (h0 + M.2.1) :: S.map (xv ad)) = F0 m (pc + 3) ls (.ref (ad M.2.1) :: S.map (xv ad))
    rw [had _ hn]
  · refine ⟨_, hc, ?_⟩
    rw [show ad M.2.1 = h0 + M.2.1 from had _ hn]
    exact (u_born ty hts hin hKn hkC e1 hty).to (hfs ad)
def xat : ArrayType → Nat
  | .int => 0
  | .char => 1
  | _ => 2
theorem x_newa {aty : ArrayType} {t N : Nat} {n : Int32} (hd : decode E.1.2.1 pc = .ok (.newarray aty, 2)) (ht : t = 0 ∧ aty = .int ∨ t = 1 ∧ aty = .char ∨ t = 2 ∧ aty = .boolean) (hw : Cond.arrayClass (newarray.typeOf aty) ∈ xT) (h0n : ¬ n < 0) (hN : n.toNatClampNeg = N) (hby : N ≤ 1000000) (hB : M.2.1 + 1 ≤ E.2.2.1.1 ∧ M.2.2 + N ≤ E.2.2.1.2) (hn : M.2.1 < 1000000) (kk : Ex E (pc + 2) L (.ref M.2.1 :: S) (xu M.1 M.2.1 (.inl (t, N, .inl (fun _ => 0))), M.2.1 + 1, M.2.2 + N) Q) : Ex E pc L (.int n :: S) M Q := by
  intro p l e R s m args below meth c D dA ad h0 nb wb Qf cX K H locs ls I hl
  obtain ⟨hx, hb, hml, hown, hts, hret, hini, hfr, hlo, hce, hsl, had, hh0, hG, hZ⟩ := id cX
  obtain ⟨i1, i2, i3, i4, i5, i6, i7⟩ := id I
  refine va_newaK hx hb (hts _ hw) rfl hd rfl h0n hN (by rcases ht with ⟨-, rfl⟩ | ⟨-, rfl⟩ | ⟨-, rfl⟩ <;> simp [newarray.typeOf, componentBytes] <;> omega) (by omega) (by omega) i2 fun H1 cA e1 z1 o1 hAr hNm => ?_
  have hcA : cA = dA t := by
    rcases ht with ⟨rfl, rfl⟩ | ⟨rfl, rfl⟩ | ⟨rfl, rfl⟩
    · exact Option.some.inj (hNm.symm.trans (hG.1.2 0 _ rfl).2)
    · exact Option.some.inj (hNm.symm.trans (hG.1.2 1 _ rfl).2)
    · exact Option.some.inj (hNm.symm.trans (hG.1.2 2 _ rfl).2)
  have k := kk p l e R s m args below meth c D dA ad h0 nb wb Qf cX K H1 locs ls (xI_new had I hn (c := .inl (t, N, .inl (fun _ => 0))) (k := N) ?_ (by rw [z1, i2]) (fun q hq => o1 q (by rw [← i2]; exact hq))) hl
  · refine W.cs (by dsimp only; omega) (by dsimp only; omega) (W.eq ?_ k)
    show F0 m (pc + 2) ls (.ref (h0 + M.2.1) :: S.map (xv ad)) = F0 m (pc + 2) ls (.ref (ad M.2.1) :: S.map (xv ad))
    rw [had _ hn]
  · show H1[ad M.2.1]? = some (vp_cell (dA t) (N, .inl (fun _ => 0)))
    rw [show ad M.2.1 = h0 + M.2.1 from had _ hn, e1, hcA]
    rcases ht with ⟨rfl, rfl⟩ | ⟨rfl, rfl⟩ | ⟨rfl, rfl⟩ <;> rfl
theorem x_anew {index N : Nat} {n : Int32} (hd : decode E.1.2.1 pc = .ok (.anewarray index, 3)) (hcl : Cond.classLink E.1.1.cls index RX1 ∈ xT) (h0n : ¬ n < 0) (hN : n.toNatClampNeg = N) (hby : N ≤ 1000000) (hB : M.2.1 + 1 ≤ E.2.2.1.1 ∧ M.2.2 + N ≤ E.2.2.1.2) (hn : M.2.1 < 1000000) (kk : Ex E (pc + 3) L (.ref M.2.1 :: S) (xu M.1 M.2.1 (.inl (3, N, .inr (.inr (.inr (.inr (fun _ => none)))))), M.2.1 + 1, M.2.2 + N) Q) : Ex E pc L (.int n :: S) M Q := by
  intro p l e R s m args below meth c D dA ad h0 nb wb Qf cX K H locs ls I hl
  obtain ⟨hx, hb, hml, hown, hts, hret, hini, hfr, hlo, hce, hsl, had, hh0, hG, hZ⟩ := id cX
  obtain ⟨i1, i2, i3, i4, i5, i6, i7⟩ := id I
  subst hN
  refine W.anew hx hb hown (hts _ hcl) (va_AO.use hG.2.2.2.2.2.2) rfl hd rfl h0n (by omega) (by omega) (by omega) fun cA kA comp f1 f2 f3 f4 => ?_
  generalize hH1 : H.push ({ cls := cA, slots := Array.replicate n.toNatClampNeg .null, vm := .none } : Cell) = H1
  have z1 : H1.size = H.size + 1 := by rw [← hH1, Array.size_push]
  have e1 : H1[H.size]? = some (arrV cA n.toNatClampNeg (fun _ => .null)) := by rw [← hH1, Array.getElem?_push_size, ← arrV_new]
  have o1 : ∀ q : Nat, q < H.size → H1[q]? = H[q]? := fun q hq => by rw [← hH1, Array.getElem?_push, if_neg (Nat.ne_of_lt hq)]
  have hcA : cA = dA 3 := by
    obtain ⟨_, _, -, -, -, k4⟩ := (hG.1.2 3 _ rfl).2
    exact Option.some.inj (f1.symm.trans k4)
  have k := kk p l e R s m args below meth c D dA ad h0 nb wb Qf cX K H1 locs ls (xI_new had I hn (c := .inl (3, n.toNatClampNeg, .inr (.inr (.inr (.inr (fun _ => none)))))) (k := n.toNatClampNeg) ?_ z1 o1) hl
  · refine W.cs (by dsimp only; omega) (by dsimp only; omega) (W.eq ?_ k)
    show F0 m (pc + 3) ls (.ref H.size :: S.map (xv ad)) = F0 m (pc + 3) ls (.ref (ad M.2.1) :: S.map (xv ad))
    rw [had _ hn, i2]
  · show H1[ad M.2.1]? = some (vp_cell (dA 3) _)
    rw [show ad M.2.1 = H.size by rw [had _ hn, i2], e1, hcA]
    rfl
theorem x_obj {a index : Nat} (hd : decode E.1.2.1 pc = .ok (.invokespecial index, 3)) (hl1 : Cond.methodLink E.1.1.cls index Lib.objectInit ∈ xT) (h2 : Cond.instanceMethod Lib.objectInit ∈ xT) (h3 : Cond.code Lib.objectInit ⟨#[0xb1]⟩ 1 none ∈ xT) (hS : S.length ≤ 4) (hdp : 1 ≤ E.2.1) (kk : Ex E (pc + 3) L S M Q) : Ex E pc L (.ref a :: S) M Q := by
  intro p l e R s m args below meth c D dA ad h0 nb wb Qf cX K H locs ls I hl
  obtain ⟨hx, hb, hml, hown, hts, hret, hini, hfr, hlo, hce, hsl, had, hh0, hG, hZ⟩ := id cX
  refine W.objInit hx hb hown (hts _ hl1) (hts _ h2) (hts _ h3) rfl (by rw [hml]; exact hl.1) rfl hd (by omega) ?_ (kk p l e R s m args below meth c D dA ad h0 nb wb Qf cX K H locs ls I hl)
  have h9 : ((S.map (xv ad)).map fun v => v.category).sum ≤ 8 := xcat_sum hS
  show 2 * 0 + _ + 12 ≤ _
  omega
end XP
