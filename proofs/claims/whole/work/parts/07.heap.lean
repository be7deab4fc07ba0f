/-! ===== Ex: variables that are written, cells, arrays, new cells ===== -/
def xu (h : Nat → xA) (a : Nat) (c : xA) : Nat → xA := fun i => if i = a then c else h i
theorem xu_s (h : Nat → xA) (a : Nat) (c : xA) : xu h a c a = c := if_pos rfl
theorem xu_n (h : Nat → xA) {a i : Nat} (c : xA) (q : i ≠ a) : xu h a c i = h i := if_neg q
def xok (i : Nat) (L : List Value) : Bool := match i with
  | 0 => true
  | k + 1 => match L[k]? with
    | some v => v.category != 2
    | none => true
def xnn : Value → Bool
  | .null => false
  | _ => true
def xlv (ad : Nat → Nat) (L : List Value) : List (Nat × Value) := (List.range L.length).filterMap (fun j => match L[j]? with
  | some v => if xnn v = true then some (j, xv ad v) else none
  | none => none)
theorem xnn_iff {v : Value} : xnn v = true ↔ v ≠ Value.null := by cases v <;> simp [xnn]
theorem xlv_mem {ad : Nat → Nat} {L : List Value} {j : Nat} {w : Value} : (j, w) ∈ xlv ad L ↔ ∃ v, L[j]? = some v ∧ v ≠ Value.null ∧ w = xv ad v := by
  unfold xlv
  rw [List.mem_filterMap]
  constructor
  · rintro ⟨k, -, hk⟩
    cases hL : L[k]? with
    | none => rw [hL] at hk; cases hk
    | some v =>
      rw [hL] at hk
      dsimp only at hk
      by_cases hv : xnn v = true
      · rw [if_pos hv] at hk
        cases hk
        exact ⟨v, hL, xnn_iff.mp hv, rfl⟩
      · rw [if_neg hv] at hk
        cases hk
  · rintro ⟨v, hL, hv, rfl⟩
    refine ⟨j, List.mem_range.mpr (List.getElem?_eq_some_iff.mp hL).1, ?_⟩
    rw [hL]
    dsimp only
    rw [if_pos (xnn_iff.mpr hv)]
theorem xL_has {ad : Nat → Nat} {L : List Value} {ls : Array Slot} {nL : Nat} (h : xL ad L ls nL) : lv_has ls nL (xlv ad L) := by
  refine ⟨h.1, h.2.1, fun q hq => ?_⟩
  obtain ⟨v, h1, h2, h3⟩ := xlv_mem.mp (show (q.1, q.2) ∈ xlv ad L from hq)
  rw [h3]
  exact h.2.2 _ _ h1 h2
theorem xok_ne {i j : Nat} {L : List Value} {u : Value} (h : xok i L = true) (hj : L[j]? = some u) (hi : j + 1 = i) : u.category ≠ 2 := by
  subst hi
  simpa [xok, hj] using h
theorem xL_set1 {ad : Nat → Nat} {L : List Value} {ls : Array Slot} {nL i : Nat} {v : Value} (ho : xok i L = true) (h : lv_has ls nL ((i, xv ad v) :: (xlv ad L).filter (fun q => !(q.1 == i) && !(q.1 + 1 == i && q.2.category == 2)))) : xL ad (L.set i v) ls nL := by
  refine ⟨h.1, h.2.1, fun j u hj hu => ?_⟩
  by_cases e : i = j
  · subst e
    rw [List.getElem?_set_self' ] at hj
    cases hL : L[i]? with
    | none => rw [hL] at hj; cases hj
    | some w =>
      rw [hL] at hj
      cases hj
      exact h.2.2 (i, xv ad v) List.mem_cons_self
  · rw [List.getElem?_set_ne e] at hj
    refine h.2.2 (j, xv ad u) (List.mem_cons_of_mem _ (List.mem_filter.mpr ⟨xlv_mem.mpr ⟨u, hj, hu, rfl⟩, ?_⟩))
    have h2 : j + 1 = i → u.category ≠ 2 := fun q => xok_ne ho hj q
    have h3 : ¬ j = i := fun q => e q.symm
    have h4 : ¬ (j + 1 = i ∧ (xv ad u).category = 2) := fun q => h2 q.1 (by rw [← xv_cat ad u]; exact q.2)
    simpa [h3] using (Classical.em (j + 1 = i)).elim (fun q => Or.inr (fun z => h4 ⟨q, z⟩)) Or.inl
theorem xL_set2 {ad : Nat → Nat} {L : List Value} {ls : Array Slot} {nL i : Nat} {v : Value} (ho : xok i L = true) (h : lv_has ls nL ((i, xv ad v) :: (xlv ad L).filter (fun q => !(q.1 == i) && (!(q.1 == i + 1) && !(q.1 + 1 == i && q.2.category == 2))))) : xL ad ((L.set i v).set (i + 1) Value.null) ls nL := by
  refine ⟨h.1, h.2.1, fun j u hj hu => ?_⟩
  by_cases e1 : i + 1 = j
  · subst e1
    rw [List.getElem?_set_self'] at hj
    cases hL : (L.set i v)[i + 1]? with
    | none => rw [hL] at hj; cases hj
    | some w => rw [hL] at hj; cases hj; exact absurd rfl hu
  rw [List.getElem?_set_ne e1] at hj
  by_cases e : i = j
  · subst e
    rw [List.getElem?_set_self' ] at hj
    cases hL : L[i]? with
    | none => rw [hL] at hj; cases hj
    | some w =>
      rw [hL] at hj
      cases hj
      exact h.2.2 (i, xv ad v) List.mem_cons_self
  · rw [List.getElem?_set_ne e] at hj
    refine h.2.2 (j, xv ad u) (List.mem_cons_of_mem _ (List.mem_filter.mpr ⟨xlv_mem.mpr ⟨u, hj, hu, rfl⟩, ?_⟩))
    have h2 : j + 1 = i → u.category ≠ 2 := fun q => xok_ne ho hj q
    have h3 : ¬ j = i := fun q => e q.symm
    have h5 : ¬ j = i + 1 := fun q => e1 q.symm
    have h4 : ¬ (j + 1 = i ∧ (xv ad u).category = 2) := fun q => h2 q.1 (by rw [← xv_cat ad u]; exact q.2)
    simpa [h3, h5] using (Classical.em (j + 1 = i)).elim (fun q => Or.inr (fun z => h4 ⟨q, z⟩)) Or.inl
section XS
variable {E : xE} {pc : Nat} {L S : List Value} {M : xM} {Q Q' : Option Value → xM → Prop}
theorem x_istore_n {i : Fin 4} {x : Int32} (hd : decode E.1.2.1 pc = .ok (.istore_n i, 1)) (hn : (i : Nat) < E.1.2.2.1) (ho : xok i L = true) (k : Ex E (pc + 1) (L.set i (.int x)) S M Q) : Ex E pc L (.int x :: S) M Q := by
  intro p l e R s m args below meth c D dA ad h0 nb wb Qf cX K H locs ls I hl
  obtain ⟨hx, hb, hml, hown, hts, hret, hini, hfr, hlo, hce, hsl, had, hh0, hG, hZ⟩ := id cX
  exact lv_istore_n (x := x) hx hb hd rfl (xL_has hl) hn rfl (fun ls' h' => k p l e R s m args below meth c D dA ad h0 nb wb Qf cX K H locs ls' I (xL_set1 (v := .int x) ho h'))
theorem x_istore {i : Nat} {x : Int32} (hd : decode E.1.2.1 pc = .ok (.istore i, 2)) (hn : i < E.1.2.2.1) (ho : xok i L = true) (k : Ex E (pc + 2) (L.set i (.int x)) S M Q) : Ex E pc L (.int x :: S) M Q := by
  intro p l e R s m args below meth c D dA ad h0 nb wb Qf cX K H locs ls I hl
  obtain ⟨hx, hb, hml, hown, hts, hret, hini, hfr, hlo, hce, hsl, had, hh0, hG, hZ⟩ := id cX
  exact lv_istore (x := x) hx hb hd (xL_has hl) hn rfl (fun ls' h' => k p l e R s m args below meth c D dA ad h0 nb wb Qf cX K H locs ls' I (xL_set1 (v := .int x) ho h'))
theorem x_astore_n {i : Fin 4} {x : Nat} (hd : decode E.1.2.1 pc = .ok (.astore_n i, 1)) (hn : (i : Nat) < E.1.2.2.1) (ho : xok i L = true) (k : Ex E (pc + 1) (L.set i (.ref x)) S M Q) : Ex E pc L (.ref x :: S) M Q := by
  intro p l e R s m args below meth c D dA ad h0 nb wb Qf cX K H locs ls I hl
  obtain ⟨hx, hb, hml, hown, hts, hret, hini, hfr, hlo, hce, hsl, had, hh0, hG, hZ⟩ := id cX
  exact lv_astore_n (x := ad x) hx hb hd rfl (xL_has hl) hn rfl (fun ls' h' => k p l e R s m args below meth c D dA ad h0 nb wb Qf cX K H locs ls' I (xL_set1 (v := .ref x) ho h'))
theorem x_astore {i : Nat} {x : Nat} (hd : decode E.1.2.1 pc = .ok (.astore i, 2)) (hn : i < E.1.2.2.1) (ho : xok i L = true) (k : Ex E (pc + 2) (L.set i (.ref x)) S M Q) : Ex E pc L (.ref x :: S) M Q := by
  intro p l e R s m args below meth c D dA ad h0 nb wb Qf cX K H locs ls I hl
  obtain ⟨hx, hb, hml, hown, hts, hret, hini, hfr, hlo, hce, hsl, had, hh0, hG, hZ⟩ := id cX
  exact lv_astore (x := ad x) hx hb hd (xL_has hl) hn rfl (fun ls' h' => k p l e R s m args below meth c D dA ad h0 nb wb Qf cX K H locs ls' I (xL_set1 (v := .ref x) ho h'))
theorem x_lstore_n {i : Fin 4} {x : Int64} (hd : decode E.1.2.1 pc = .ok (.lstore_n i, 1)) (hn : (i : Nat) + 1 < E.1.2.2.1) (ho : xok i L = true) (k : Ex E (pc + 1) ((L.set i (.long x)).set (i + 1) Value.null) S M Q) : Ex E pc L (.long x :: S) M Q := by
  intro p l e R s m args below meth c D dA ad h0 nb wb Qf cX K H locs ls I hl
  obtain ⟨hx, hb, hml, hown, hts, hret, hini, hfr, hlo, hce, hsl, had, hh0, hG, hZ⟩ := id cX
  exact lv_lstore_n (x := x) hx hb hd rfl (xL_has hl) hn rfl (fun ls' h' => k p l e R s m args below meth c D dA ad h0 nb wb Qf cX K H locs ls' I (xL_set2 (v := .long x) ho h'))
theorem x_lstore {i : Nat} {x : Int64} (hd : decode E.1.2.1 pc = .ok (.lstore i, 2)) (hn : i + 1 < E.1.2.2.1) (ho : xok i L = true) (k : Ex E (pc + 2) ((L.set i (.long x)).set (i + 1) Value.null) S M Q) : Ex E pc L (.long x :: S) M Q := by
  intro p l e R s m args below meth c D dA ad h0 nb wb Qf cX K H locs ls I hl
  obtain ⟨hx, hb, hml, hown, hts, hret, hini, hfr, hlo, hce, hsl, had, hh0, hG, hZ⟩ := id cX
  exact lv_lstore (x := x) hx hb hd (xL_has hl) hn rfl (fun ls' h' => k p l e R s m args below meth c D dA ad h0 nb wb Qf cX K H locs ls' I (xL_set2 (v := .long x) ho h'))
theorem x_iinc {i : Nat} {n : Int} {x : Int32} (hd : decode E.1.2.1 pc = .ok (.iinc i n, 3)) (hv : L[i]? = some (.int x)) (hn : i < E.1.2.2.1) (ho : xok i L = true) (k : Ex E (pc + 3) (L.set i (.int (x + Int32.ofInt n))) S M Q) : Ex E pc L S M Q := by
  intro p l e R s m args below meth c D dA ad h0 nb wb Qf cX K H locs ls I hl
  obtain ⟨hx, hb, hml, hown, hts, hret, hini, hfr, hlo, hce, hsl, had, hh0, hG, hZ⟩ := id cX
  obtain ⟨j, hj⟩ := List.getElem?_of_mem (xlv_mem.mpr ⟨_, hv, (fun h => by cases h), rfl⟩ : (i, xv ad (.int x)) ∈ xlv ad L)
  exact lv_iinc (x := x) hx hb hd (xL_has hl) hj rfl hn rfl (fun ls' h' => k p l e R s m args below meth c D dA ad h0 nb wb Qf cX K H locs ls' I (xL_set1 (v := .int (x + Int32.ofInt n)) ho h'))
/-- a cell's contents are changed -/
theorem xI_put {D : va_G} {dA : Nat → ClassId} {ad : Nat → Nat} {h0 nb wb : Nat} {s : State} {M : xM} {H H1 : Heap} {locs locs1 : List Loc} (had : ∀ i, i < 1000000 → ad i = h0 + i) (I : xI D dA ad h0 nb wb s M H locs) {a : Nat} (ha : a < M.2.1) {c : xA} (e : va_at D vwCl (ad a, xe ad dA c) H1) (z : H1.size = H.size) (oq : ∀ q : Nat, q ≠ ad a → H1[q]? = H[q]?) (hl : ∀ l ∈ locs1, l.base = ad a) : xI D dA ad h0 nb wb s (xu M.1 a c, M.2) H1 (locs ++ locs1) := by
  obtain ⟨h1, h2, h3, h4, h5, h6, h7⟩ := I
  have hb : ad a = h0 + a := had a (by omega)
  refine ⟨fun i hi => ?_, by rw [z]; exact h2, fun q hq => by rw [oq q (by omega)]; exact h3 q hq, fun l hm => ?_, h5, h6, h7⟩
  · by_cases e1 : i = a
    · subst e1
      dsimp only
      rw [xu_s]
      exact e
    · dsimp only
      rw [xu_n _ _ e1]
      refine (h1 i hi).kept (oq _ ?_)
      dsimp only at hi
      show ad i ≠ ad a
      rw [had i (by omega), hb]
      omega
  · rcases List.mem_append.mp hm with h | h
    · exact h4 l h
    · rw [hl l h, hb]; omega
/-- a cell more -/
theorem xI_new {D : va_G} {dA : Nat → ClassId} {ad : Nat → Nat} {h0 nb wb : Nat} {s : State} {M : xM} {H H1 : Heap} {locs : List Loc} (had : ∀ i, i < 1000000 → ad i = h0 + i) (I : xI D dA ad h0 nb wb s M H locs) (hn : M.2.1 < 1000000) {c : xA} {k : Nat} (e : va_at D vwCl (ad M.2.1, xe ad dA c) H1) (z : H1.size = H.size + 1) (oq : ∀ q : Nat, q < H.size → H1[q]? = H[q]?) : xI D dA ad h0 nb wb s (xu M.1 M.2.1 c, M.2.1 + 1, M.2.2 + k) H1 locs := by
  obtain ⟨h1, h2, h3, h4, h5, h6, h7⟩ := I
  refine ⟨fun i hi => ?_, by rw [z, h2]; rfl, fun q hq => by rw [oq q (by omega)]; exact h3 q hq, h4, by dsimp only; omega, by dsimp only; omega, by dsimp only; omega⟩
  dsimp only at hi ⊢
  by_cases e1 : i = M.2.1
  · subst e1
    rw [xu_s]
    exact e
  · rw [xu_n _ _ e1]
    refine (h1 i (by omega)).kept (oq _ ?_)
    show ad i < H.size
    rw [had i (by omega), h2]
    omega
theorem xP_one {D : va_G} {H : Heap} {q : Nat × va_E} (h : va_at D vwCl q H) : va_P D vwCl [q] H := by
  intro k r hr
  match k, hr with
  | 0, hr => cases hr; exact h
/-- getfield -/
theorem x_get {a ci k index N : Nat} {fs : List Value} {v : Value} {C : String} {T : u_T} (hd : decode E.1.2.1 pc = .ok (.getfield index, 3)) (hlink : Cond.fieldLink E.1.1.cls index (T k).1 (T k).2.1 (T k).2.2.1 ∈ xT) (hin : ∀ w ∈ u_ws C T N, w ∈ xT) (hc : vwCl[ci]? = some (C, T, N)) (hk : k < N) (ha : a < M.2.1) (hM : M.1 a = .inr (ci, fs)) (hv : fs[k]? = some v) (kk : Ex E (pc + 3) L (v :: S) M Q) : Ex E pc L (.ref a :: S) M Q := by
  intro p l e R s m args below meth c D dA ad h0 nb wb Qf cX K H locs ls I hl
  obtain ⟨hx, hb, hml, hown, hts, hret, hini, hfr, hlo, hce, hsl, had, hh0, hG, hZ⟩ := id cX
  have hP := xP_one (I.1 a ha)
  rw [hM] at hP
  exact va_get (C := C) (T := T) (N := N) (ref := (T k).1) hx hb hts hin hown hG.1 hP 0 rfl hc k hk (hts _ hlink) (fun _ h => h) (v := xv ad v) (by rw [List.getElem?_map, hv]; rfl) hd (kk p l e R s m args below meth c D dA ad h0 nb wb Qf cX K H locs ls I hl)
theorem x_getN {a ci k index N : Nat} {fs : List Value} {v : Value} {C host : String} {T : u_T} (hd : decode E.1.2.1 pc = .ok (.getfield index, 3)) (hlink : Cond.fieldLinkNest E.1.1.cls index (T k).1 (T k).2.1 (T k).2.2.1 host ∈ xN) (hin : ∀ w ∈ u_ws C T N, w ∈ xT) (hc : vwCl[ci]? = some (C, T, N)) (hk : k < N) (ha : a < M.2.1) (hM : M.1 a = .inr (ci, fs)) (hv : fs[k]? = some v) (kk : Ex E (pc + 3) L (v :: S) M Q) : Ex E pc L (.ref a :: S) M Q := by
  intro p l e R s m args below meth c D dA ad h0 nb wb Qf cX K H locs ls I hl
  obtain ⟨hx, hb, hml, hown, hts, hret, hini, hfr, hlo, hce, hsl, had, hh0, hG, hZ⟩ := id cX
  have hP := xP_one (I.1 a ha)
  rw [hM] at hP
  exact va_getN (C := C) (T := T) (N := N) (ref := (T k).1) hx hb hts hin hown hG.1 hP 0 rfl hc k hk ((hG.2.1 _ hlink).use (xN_tab hlink)) (fun _ h => h) (v := xv ad v) (by rw [List.getElem?_map, hv]; rfl) hd (kk p l e R s m args below meth c D dA ad h0 nb wb Qf cX K H locs ls I hl)
def xlk (own : String) (index : Nat) (r n d : String) : Prop := Cond.fieldLink own index r n d ∈ xT ∨ ∃ host, Cond.fieldLinkNest own index r n d host ∈ xN
end XS
