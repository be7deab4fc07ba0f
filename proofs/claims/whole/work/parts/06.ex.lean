/-! ===== A small logic over the machine: Ex (from this pc, with these values, Q comes at the return), ExM (a method's contract) ===== -/
def xNw : Cond → Bool
  | .fieldLinkNest _ _ _ _ _ _ => true
  | .methodLinkNest _ _ _ _ => true
  | _ => false
def xT : List Cond := lw_tbl.filter goodWord
def xN : List Cond := tables_1.filter xNw
abbrev xY : Type := MethodName × ByteArray × Nat × Option FieldType
abbrev xB : Type := Nat × Nat
abbrev xE : Type := xY × Nat × xB × Option (Nat × (Nat → Int32))
abbrev xA : Type := (Nat × vp_A) ⊕ (Nat × List Value)
abbrev xM : Type := (Nat → xA) × Nat × Nat
def xv (ad : Nat → Nat) : Value → Value
  | .ref i => .ref (ad i)
  | v => v
theorem xv_cat (ad : Nat → Nat) (v : Value) : (xv ad v).category = v.category := by cases v <;> rfl
theorem xv_null (ad : Nat → Nat) (v : Value) (h : v ≠ .null) : xv ad v ≠ .null := by cases v <;> simp_all [xv]
def xe (ad : Nat → Nat) (dA : Nat → ClassId) : xA → va_E
  | .inl (t, n, .inl f) => .inl (dA t, n, .inl f)
  | .inl (t, n, .inr (.inr (.inr (.inr g)))) => .inl (dA t, n, .inr (.inr (.inr (.inr (fun j => (g j).map ad)))))
  | .inl (t, n, r) => .inl (dA t, n, r)
  | .inr (c, fs) => .inr (c, fs.map (xv ad))
def xtys (dA : Nat → ClassId) : List (ClassId × FieldType) := [(dA 0, .int), (dA 1, .char), (dA 2, .boolean), (dA 3, .object RX1)]
def xsi : List Nat := [57, 66, 71, 79, 90, 92, 94, 96]
def xst : List String := ["town", "slope", "cap", "inches", "garden", "orchard", "alley", "laundry"]
def xbyt : List (List Int32) := [[116, 111, 119, 110], [115, 108, 111, 112, 101], [99, 97, 112], [105, 110, 99, 104, 101, 115], [103, 97, 114, 100, 101, 110], [111, 114, 99, 104, 97, 114, 100], [97, 108, 108, 101, 121], [108, 97, 117, 110, 100, 114, 121]]
def xlen : List Nat := [4, 5, 3, 6, 6, 7, 5, 7]
def xFm : String := "Ljava/util/function/BiFunction;"
/-- what holds of the machine's tables and of the old cells -/
def xG (D : va_G) (dA : Nat → ClassId) (ad : Nat → Nat) (h0 : Nat) (U : State) (H : Heap) : Prop :=
  va_K D vwCl (xtys dA) U ∧ (∀ w ∈ xN, va_Nw w U) ∧ vk_S 8 xlen xbyt (fun i => ad (1000001 + i)) (fun i => ad (1000101 + i)) (fun q => h0 ≤ q) U H ∧
  (∀ i, i < 8 → vk_R RX7 (xsi.getD i 0) (xst.getD i "") (ad (1000001 + i)) U) ∧ va_Z "java/lang/String" "COMPACT_STRINGS" "Z" (.int 1) (fun q => h0 ≤ q) U H ∧
  (∃ v, va_Z "jdk/internal/util/Preconditions" "SIOOBE_FORMATTER" xFm v (fun q => h0 ≤ q) U H ∧ (v = .null ∨ v = .ref (ad 1000200))) ∧ va_AO RX1 U
theorem xN_tab {w : Cond} (h : w ∈ xN) : w.onTables = true := by
  have h1 := (List.mem_filter.mp h).2
  cases w <;> first | rfl | (exact absurd h1 (by simp [xNw]))
theorem xG_same {D : va_G} {dA : Nat → ClassId} {ad : Nat → Nat} {h0 : Nat} {u U : State} {H : Heap} (hv : u.vm = U.vm) (h : xG D dA ad h0 u H) : xG D dA ad h0 U H := by
  obtain ⟨h1, h2, h3, h4, h5, ⟨v, h6, h7⟩, h8⟩ := h
  have ha : u.vm.Alike U.vm := by rw [hv]; exact Vm.Alike.refl _
  exact ⟨h1.moved ha, fun w hw => (h2 w hw).same (xN_tab hw) hv, h3.moved ha, fun i hi => (h4 i hi).same hv.symm, h5.moved ha, ⟨v, h6.moved ha, h7⟩, h8.moved ha⟩
theorem xG_warm {D : va_G} {dA : Nat → ClassId} {ad : Nat → Nat} {h0 : Nat} {s U : State} {H H1 : Heap} (hW : s.WarmedH U.vm) (hq : ∀ a : Nat, a < h0 → H1[a]? = H[a]?) (h : xG D dA ad h0 s H) : xG D dA ad h0 U H1 := by
  obtain ⟨h1, h2, h3, h4, h5, ⟨v, h6, h7⟩, h8⟩ := h
  have ha := hW.alike
  have hq' : ∀ a : Nat, a < H.size → ¬ (h0 ≤ a) → H1[a]? = H[a]? := fun a _ h => hq a (Nat.lt_of_not_le h)
  refine ⟨h1.moved ha, fun w hw => ?_, (h3.moved ha).kept hq', fun i hi => (h4 i hi).warm hW, (h5.moved ha).kept hq', ⟨v, (h6.moved ha).kept hq', h7⟩, h8.moved ha⟩
  have hz := h2 w hw
  have hf := (List.mem_filter.mp hw).2
  cases w <;> first | exact hz.warmF hW | exact hz.warmM hW | exact absurd hf (by simp [xNw])
/-- the fixed things of a body -/
def xC (E : xE) (p : Program) (l : Launch) (e : Env) (R : Room) (s : State) (m : MethodId) (args : Array Value) (below : List Frame) (meth : Method) (c : Code) (D : va_G) (dA : Nat → ClassId) (ad : Nat → Nat) (h0 nb wb : Nat) : Prop :=
  p.tables.exec = Jvm.exec ∧ c.code = E.1.2.1 ∧ c.maxLocals = E.1.2.2.1 ∧ s.vm.findClass E.1.1.cls = some m.cls ∧ (∀ w ∈ xT, w.before args s = true) ∧ meth.sig.returnType = E.1.2.2.2 ∧ (E.1.1.name = "<init>" → meth.name = "<init>") ∧
  E.2.1 ≤ R.frames ∧ 64 * E.2.1 ≤ R.locals ∧ E.2.2.1.1 ≤ R.cells + nb ∧ E.2.2.1.2 ≤ R.slots + wb ∧ (∀ i, i < 1000000 → ad i = h0 + i) ∧ s.heap.size = h0 + nb ∧ xG D dA ad h0 s s.heap ∧
  (∀ Z, E.2.2.2 = some Z → va_X (ad 1000000) Z.1 Z.2 s s.heap ∧ ad 1000000 < h0)
/-- the heap holds the picture M -/
def xI (D : va_G) (dA : Nat → ClassId) (ad : Nat → Nat) (h0 nb wb : Nat) (s : State) (M : xM) (H : Heap) (locs : List Loc) : Prop :=
  (∀ i, i < M.2.1 → va_at D vwCl (ad i, xe ad dA (M.1 i)) H) ∧ H.size = h0 + M.2.1 ∧ (∀ q : Nat, q < h0 → H[q]? = s.heap[q]?) ∧ (∀ l ∈ locs, h0 ≤ l.base) ∧ nb ≤ M.2.1 ∧ wb ≤ M.2.2 ∧ M.2.1 ≤ 1000000
/-- the variables of a frame -/
def xL (ad : Nat → Nat) (L : List Value) (ls : Array Slot) (nL : Nat) : Prop := ls.size = nL ∧ lv_wf ls ∧ ∀ (i : Nat) (v : Value), L[i]? = some v → v ≠ Value.null → ls[i]? = some (Slot.val (xv ad v))
/-- a return stands at this pc -/
def xR (Y : xY) (pc : Nat) (v : Option Value) : Prop := match v with
  | none => decode Y.2.1 pc = .ok (.return_, 1) ∧ Y.2.2.2 = none
  | some (.int x) => decode Y.2.1 pc = .ok (.ireturn, 1) ∧ ∃ ty, Y.2.2.2 = some ty ∧ narrow ty (.int x) = .int x
  | some (.long _) => decode Y.2.1 pc = .ok (.lreturn, 1) ∧ Y.2.2.2 = some .long
  | _ => False
def Ex (E : xE) (pc : Nat) (L S : List Value) (M : xM) (Q : Option Value → xM → Prop) : Prop :=
  ∀ (p : Program) (l : Launch) (e : Env) (R : Room) (s : State) (m : MethodId) (args : Array Value) (below : List Frame) (meth : Method) (c : Code) (D : va_G) (dA : Nat → ClassId) (ad : Nat → Nat) (h0 nb wb : Nat) (Qf : State → Prop),
    xC E p l e R s m args below meth c D dA ad h0 nb wb →
    (∀ pc' ls' v M' H' locs', xR E.1 pc' v → Q v M' → xI D dA ad h0 nb wb s M' H' locs' → W p l e R s m args below meth c H' locs' (M'.2.1 - nb) (M'.2.2 - wb) Qf (F0 m pc' ls' (v.map (xv ad)).toList)) →
    ∀ (H : Heap) (locs : List Loc) (ls : Array Slot), xI D dA ad h0 nb wb s M H locs → xL ad L ls E.1.2.2.1 → W p l e R s m args below meth c H locs (M.2.1 - nb) (M.2.2 - wb) Qf (F0 m pc ls (S.map (xv ad)))
section XR
variable {E : xE} {pc : Nat} {L S : List Value} {M : xM} {Q Q' : Option Value → xM → Prop}
theorem Ex.mono (h : Ex E pc L S M Q') (hq : ∀ v M', Q' v M' → Q v M') : Ex E pc L S M Q :=
  fun p l e R s m args below meth c D dA ad h0 nb wb Qf C K => h p l e R s m args below meth c D dA ad h0 nb wb Qf C (fun pc' ls' v M' H' locs' a b c => K pc' ls' v M' H' locs' a (hq v M' b) c)
theorem x_iconst {n : Int} {v : Int32} (hd : decode E.1.2.1 pc = .ok (.iconst n, 1)) (hv : Int32.ofInt n = v) (k : Ex E (pc + 1) L (.int v :: S) M Q) : Ex E pc L S M Q := by
  intro p l e R s m args below meth c D dA ad h0 nb wb Qf cX K H locs ls I hl
  obtain ⟨hx, hb, hml, hown, hts, hret, hini, hfr, hlo, hce, hsl, had, hh0, hG, hZ⟩ := id cX
  exact lv_iconst hx hb hd hv (k p l e R s m args below meth c D dA ad h0 nb wb Qf cX K H locs ls I hl)
theorem x_bipush {n : Int} {v : Int32} (hd : decode E.1.2.1 pc = .ok (.bipush n, 2)) (hv : (Int8.ofInt n).toInt32 = v) (k : Ex E (pc + 2) L (.int v :: S) M Q) : Ex E pc L S M Q := by
  intro p l e R s m args below meth c D dA ad h0 nb wb Qf cX K H locs ls I hl
  obtain ⟨hx, hb, hml, hown, hts, hret, hini, hfr, hlo, hce, hsl, had, hh0, hG, hZ⟩ := id cX
  exact lv_bipush hx hb hd hv (k p l e R s m args below meth c D dA ad h0 nb wb Qf cX K H locs ls I hl)
theorem x_sipush {n : Int} {v : Int32} (hd : decode E.1.2.1 pc = .ok (.sipush n, 3)) (hv : (Int16.ofInt n).toInt32 = v) (k : Ex E (pc + 3) L (.int v :: S) M Q) : Ex E pc L S M Q := by
  intro p l e R s m args below meth c D dA ad h0 nb wb Qf cX K H locs ls I hl
  obtain ⟨hx, hb, hml, hown, hts, hret, hini, hfr, hlo, hce, hsl, had, hh0, hG, hZ⟩ := id cX
  exact lv_sipush hx hb hd hv (k p l e R s m args below meth c D dA ad h0 nb wb Qf cX K H locs ls I hl)
theorem x_lconst {n : Fin 2} {v : Int64} (hd : decode E.1.2.1 pc = .ok (.lconst n, 1)) (hv : Int64.ofNat (n : Nat) = v) (k : Ex E (pc + 1) L (.long v :: S) M Q) : Ex E pc L S M Q := by
  intro p l e R s m args below meth c D dA ad h0 nb wb Qf cX K H locs ls I hl
  obtain ⟨hx, hb, hml, hown, hts, hret, hini, hfr, hlo, hce, hsl, had, hh0, hG, hZ⟩ := id cX
  exact lv_lconst hx hb hd hv (k p l e R s m args below meth c D dA ad h0 nb wb Qf cX K H locs ls I hl)
theorem x_ldcw {index : Nat} {v : Int32} (hd : decode E.1.2.1 pc = .ok (.ldc_w index, 3)) (hw : Cond.constant E.1.1.cls index v ∈ xT) (k : Ex E (pc + 3) L (.int v :: S) M Q) : Ex E pc L S M Q := by
  intro p l e R s m args below meth c D dA ad h0 nb wb Qf cX K H locs ls I hl
  obtain ⟨hx, hb, hml, hown, hts, hret, hini, hfr, hlo, hce, hsl, had, hh0, hG, hZ⟩ := id cX
  exact lv_ldcw hx hb hown (hts _ hw) hd (k p l e R s m args below meth c D dA ad h0 nb wb Qf cX K H locs ls I hl)
theorem x_iload_n {i : Fin 4} {x : Int32} (hd : decode E.1.2.1 pc = .ok (.iload_n i, 1)) (hv : L[(i : Nat)]? = some (.int x)) (k : Ex E (pc + 1) L (.int x :: S) M Q) : Ex E pc L S M Q := by
  intro p l e R s m args below meth c D dA ad h0 nb wb Qf cX K H locs ls I hl
  obtain ⟨hx, hb, hml, hown, hts, hret, hini, hfr, hlo, hce, hsl, had, hh0, hG, hZ⟩ := id cX
  exact lv_iload_n (x := x) hx hb hd rfl (hl.2.2 _ _ hv (fun h => by cases h)) (k p l e R s m args below meth c D dA ad h0 nb wb Qf cX K H locs ls I hl)
theorem x_iload {i : Nat} {x : Int32} (hd : decode E.1.2.1 pc = .ok (.iload i, 2)) (hv : L[i]? = some (.int x)) (k : Ex E (pc + 2) L (.int x :: S) M Q) : Ex E pc L S M Q := by
  intro p l e R s m args below meth c D dA ad h0 nb wb Qf cX K H locs ls I hl
  obtain ⟨hx, hb, hml, hown, hts, hret, hini, hfr, hlo, hce, hsl, had, hh0, hG, hZ⟩ := id cX
  exact lv_iload (x := x) hx hb hd (hl.2.2 _ _ hv (fun h => by cases h)) (k p l e R s m args below meth c D dA ad h0 nb wb Qf cX K H locs ls I hl)
theorem x_lload_n {i : Fin 4} {x : Int64} (hd : decode E.1.2.1 pc = .ok (.lload_n i, 1)) (hv : L[(i : Nat)]? = some (.long x)) (k : Ex E (pc + 1) L (.long x :: S) M Q) : Ex E pc L S M Q := by
  intro p l e R s m args below meth c D dA ad h0 nb wb Qf cX K H locs ls I hl
  obtain ⟨hx, hb, hml, hown, hts, hret, hini, hfr, hlo, hce, hsl, had, hh0, hG, hZ⟩ := id cX
  exact lv_lload_n (x := x) hx hb hd rfl (hl.2.2 _ _ hv (fun h => by cases h)) (k p l e R s m args below meth c D dA ad h0 nb wb Qf cX K H locs ls I hl)
theorem x_lload {i : Nat} {x : Int64} (hd : decode E.1.2.1 pc = .ok (.lload i, 2)) (hv : L[i]? = some (.long x)) (k : Ex E (pc + 2) L (.long x :: S) M Q) : Ex E pc L S M Q := by
  intro p l e R s m args below meth c D dA ad h0 nb wb Qf cX K H locs ls I hl
  obtain ⟨hx, hb, hml, hown, hts, hret, hini, hfr, hlo, hce, hsl, had, hh0, hG, hZ⟩ := id cX
  exact lv_lload (x := x) hx hb hd (hl.2.2 _ _ hv (fun h => by cases h)) (k p l e R s m args below meth c D dA ad h0 nb wb Qf cX K H locs ls I hl)
theorem x_aload_n {i : Fin 4} {x : Nat} (hd : decode E.1.2.1 pc = .ok (.aload_n i, 1)) (hv : L[(i : Nat)]? = some (.ref x)) (k : Ex E (pc + 1) L (.ref x :: S) M Q) : Ex E pc L S M Q := by
  intro p l e R s m args below meth c D dA ad h0 nb wb Qf cX K H locs ls I hl
  obtain ⟨hx, hb, hml, hown, hts, hret, hini, hfr, hlo, hce, hsl, had, hh0, hG, hZ⟩ := id cX
  exact lv_aload_n (x := ad x) hx hb hd rfl (hl.2.2 _ _ hv (fun h => by cases h)) (k p l e R s m args below meth c D dA ad h0 nb wb Qf cX K H locs ls I hl)
theorem x_aload {i : Nat} {x : Nat} (hd : decode E.1.2.1 pc = .ok (.aload i, 2)) (hv : L[i]? = some (.ref x)) (k : Ex E (pc + 2) L (.ref x :: S) M Q) : Ex E pc L S M Q := by
  intro p l e R s m args below meth c D dA ad h0 nb wb Qf cX K H locs ls I hl
  obtain ⟨hx, hb, hml, hown, hts, hret, hini, hfr, hlo, hce, hsl, had, hh0, hG, hZ⟩ := id cX
  exact lv_aload (x := ad x) hx hb hd (hl.2.2 _ _ hv (fun h => by cases h)) (k p l e R s m args below meth c D dA ad h0 nb wb Qf cX K H locs ls I hl)
theorem x_iadd {x y : Int32} (hd : decode E.1.2.1 pc = .ok (.iadd, 1)) (k : Ex E (pc + 1) L (.int (x + y) :: S) M Q) : Ex E pc L (.int y :: .int x :: S) M Q := by
  intro p l e R s m args below meth c D dA ad h0 nb wb Qf cX K H locs ls I hl
  obtain ⟨hx, hb, hml, hown, hts, hret, hini, hfr, hlo, hce, hsl, had, hh0, hG, hZ⟩ := id cX
  exact lv_iadd hx hb hd (k p l e R s m args below meth c D dA ad h0 nb wb Qf cX K H locs ls I hl)
theorem x_isub {x y : Int32} (hd : decode E.1.2.1 pc = .ok (.isub, 1)) (k : Ex E (pc + 1) L (.int (x - y) :: S) M Q) : Ex E pc L (.int y :: .int x :: S) M Q := by
  intro p l e R s m args below meth c D dA ad h0 nb wb Qf cX K H locs ls I hl
  obtain ⟨hx, hb, hml, hown, hts, hret, hini, hfr, hlo, hce, hsl, had, hh0, hG, hZ⟩ := id cX
  exact lv_isub hx hb hd (k p l e R s m args below meth c D dA ad h0 nb wb Qf cX K H locs ls I hl)
theorem x_imul {x y : Int32} (hd : decode E.1.2.1 pc = .ok (.imul, 1)) (k : Ex E (pc + 1) L (.int (x * y) :: S) M Q) : Ex E pc L (.int y :: .int x :: S) M Q := by
  intro p l e R s m args below meth c D dA ad h0 nb wb Qf cX K H locs ls I hl
  obtain ⟨hx, hb, hml, hown, hts, hret, hini, hfr, hlo, hce, hsl, had, hh0, hG, hZ⟩ := id cX
  exact lv_imul hx hb hd (k p l e R s m args below meth c D dA ad h0 nb wb Qf cX K H locs ls I hl)
theorem x_iand {x y : Int32} (hd : decode E.1.2.1 pc = .ok (.iand, 1)) (k : Ex E (pc + 1) L (.int (x &&& y) :: S) M Q) : Ex E pc L (.int y :: .int x :: S) M Q := by
  intro p l e R s m args below meth c D dA ad h0 nb wb Qf cX K H locs ls I hl
  obtain ⟨hx, hb, hml, hown, hts, hret, hini, hfr, hlo, hce, hsl, had, hh0, hG, hZ⟩ := id cX
  exact lv_iand hx hb hd (k p l e R s m args below meth c D dA ad h0 nb wb Qf cX K H locs ls I hl)
theorem x_ior {x y : Int32} (hd : decode E.1.2.1 pc = .ok (.ior, 1)) (k : Ex E (pc + 1) L (.int (x ||| y) :: S) M Q) : Ex E pc L (.int y :: .int x :: S) M Q := by
  intro p l e R s m args below meth c D dA ad h0 nb wb Qf cX K H locs ls I hl
  obtain ⟨hx, hb, hml, hown, hts, hret, hini, hfr, hlo, hce, hsl, had, hh0, hG, hZ⟩ := id cX
  exact lv_ior hx hb hd (k p l e R s m args below meth c D dA ad h0 nb wb Qf cX K H locs ls I hl)
theorem x_ixor {x y : Int32} (hd : decode E.1.2.1 pc = .ok (.ixor, 1)) (k : Ex E (pc + 1) L (.int (x ^^^ y) :: S) M Q) : Ex E pc L (.int y :: .int x :: S) M Q := by
  intro p l e R s m args below meth c D dA ad h0 nb wb Qf cX K H locs ls I hl
  obtain ⟨hx, hb, hml, hown, hts, hret, hini, hfr, hlo, hce, hsl, had, hh0, hG, hZ⟩ := id cX
  exact lv_ixor hx hb hd (k p l e R s m args below meth c D dA ad h0 nb wb Qf cX K H locs ls I hl)
theorem x_ishl {x y : Int32} (hd : decode E.1.2.1 pc = .ok (.ishl, 1)) (k : Ex E (pc + 1) L (.int (x <<< (y &&& 31)) :: S) M Q) : Ex E pc L (.int y :: .int x :: S) M Q := by
  intro p l e R s m args below meth c D dA ad h0 nb wb Qf cX K H locs ls I hl
  obtain ⟨hx, hb, hml, hown, hts, hret, hini, hfr, hlo, hce, hsl, had, hh0, hG, hZ⟩ := id cX
  exact lv_ishl hx hb hd (k p l e R s m args below meth c D dA ad h0 nb wb Qf cX K H locs ls I hl)
theorem x_ishr {x y : Int32} (hd : decode E.1.2.1 pc = .ok (.ishr, 1)) (k : Ex E (pc + 1) L (.int (x >>> (y &&& 31)) :: S) M Q) : Ex E pc L (.int y :: .int x :: S) M Q := by
  intro p l e R s m args below meth c D dA ad h0 nb wb Qf cX K H locs ls I hl
  obtain ⟨hx, hb, hml, hown, hts, hret, hini, hfr, hlo, hce, hsl, had, hh0, hG, hZ⟩ := id cX
  exact lv_ishr hx hb hd (k p l e R s m args below meth c D dA ad h0 nb wb Qf cX K H locs ls I hl)
theorem x_iushr {x y v : Int32} (hd : decode E.1.2.1 pc = .ok (.iushr, 1)) (hv : (x.toUInt32 >>> (y.toUInt32 &&& Int32.toUInt32 31)).toInt32 = v) (k : Ex E (pc + 1) L (.int v :: S) M Q) : Ex E pc L (.int y :: .int x :: S) M Q := by
  intro p l e R s m args below meth c D dA ad h0 nb wb Qf cX K H locs ls I hl
  obtain ⟨hx, hb, hml, hown, hts, hret, hini, hfr, hlo, hce, hsl, had, hh0, hG, hZ⟩ := id cX
  exact lv_iushr hx hb hd hv (k p l e R s m args below meth c D dA ad h0 nb wb Qf cX K H locs ls I hl)
theorem x_idiv {x y : Int32} (hd : decode E.1.2.1 pc = .ok (.idiv, 1)) (hn : ¬ y = 0) (k : Ex E (pc + 1) L (.int (x / y) :: S) M Q) : Ex E pc L (.int y :: .int x :: S) M Q := by
  intro p l e R s m args below meth c D dA ad h0 nb wb Qf cX K H locs ls I hl
  obtain ⟨hx, hb, hml, hown, hts, hret, hini, hfr, hlo, hce, hsl, had, hh0, hG, hZ⟩ := id cX
  exact lv_idiv hx hb hd hn (k p l e R s m args below meth c D dA ad h0 nb wb Qf cX K H locs ls I hl)
theorem x_irem {x y : Int32} (hd : decode E.1.2.1 pc = .ok (.irem, 1)) (hn : ¬ y = 0) (k : Ex E (pc + 1) L (.int (x - x / y * y) :: S) M Q) : Ex E pc L (.int y :: .int x :: S) M Q := by
  intro p l e R s m args below meth c D dA ad h0 nb wb Qf cX K H locs ls I hl
  obtain ⟨hx, hb, hml, hown, hts, hret, hini, hfr, hlo, hce, hsl, had, hh0, hG, hZ⟩ := id cX
  exact lv_irem hx hb hd hn (k p l e R s m args below meth c D dA ad h0 nb wb Qf cX K H locs ls I hl)
theorem x_ladd {x y : Int64} (hd : decode E.1.2.1 pc = .ok (.ladd, 1)) (k : Ex E (pc + 1) L (.long (x + y) :: S) M Q) : Ex E pc L (.long y :: .long x :: S) M Q := by
  intro p l e R s m args below meth c D dA ad h0 nb wb Qf cX K H locs ls I hl
  obtain ⟨hx, hb, hml, hown, hts, hret, hini, hfr, hlo, hce, hsl, had, hh0, hG, hZ⟩ := id cX
  exact lv_ladd hx hb hd (k p l e R s m args below meth c D dA ad h0 nb wb Qf cX K H locs ls I hl)
theorem x_lmul {x y : Int64} (hd : decode E.1.2.1 pc = .ok (.lmul, 1)) (k : Ex E (pc + 1) L (.long (x * y) :: S) M Q) : Ex E pc L (.long y :: .long x :: S) M Q := by
  intro p l e R s m args below meth c D dA ad h0 nb wb Qf cX K H locs ls I hl
  obtain ⟨hx, hb, hml, hown, hts, hret, hini, hfr, hlo, hce, hsl, had, hh0, hG, hZ⟩ := id cX
  exact lv_lmul hx hb hd (k p l e R s m args below meth c D dA ad h0 nb wb Qf cX K H locs ls I hl)
theorem x_ldiv {x y : Int64} (hd : decode E.1.2.1 pc = .ok (.ldiv, 1)) (hn : ¬ y = 0) (k : Ex E (pc + 1) L (.long (x / y) :: S) M Q) : Ex E pc L (.long y :: .long x :: S) M Q := by
  intro p l e R s m args below meth c D dA ad h0 nb wb Qf cX K H locs ls I hl
  obtain ⟨hx, hb, hml, hown, hts, hret, hini, hfr, hlo, hce, hsl, had, hh0, hG, hZ⟩ := id cX
  exact lv_ldiv hx hb hd hn (k p l e R s m args below meth c D dA ad h0 nb wb Qf cX K H locs ls I hl)
theorem x_lrem {x y : Int64} (hd : decode E.1.2.1 pc = .ok (.lrem, 1)) (hn : ¬ y = 0) (k : Ex E (pc + 1) L (.long (x - x / y * y) :: S) M Q) : Ex E pc L (.long y :: .long x :: S) M Q := by
  intro p l e R s m args below meth c D dA ad h0 nb wb Qf cX K H locs ls I hl
  obtain ⟨hx, hb, hml, hown, hts, hret, hini, hfr, hlo, hce, hsl, had, hh0, hG, hZ⟩ := id cX
  exact lv_lrem hx hb hd hn (k p l e R s m args below meth c D dA ad h0 nb wb Qf cX K H locs ls I hl)
theorem x_lcmp {x y : Int64} (hd : decode E.1.2.1 pc = .ok (.lcmp, 1)) (k : Ex E (pc + 1) L (.int (lg_cmp x y) :: S) M Q) : Ex E pc L (.long y :: .long x :: S) M Q := by
  intro p l e R s m args below meth c D dA ad h0 nb wb Qf cX K H locs ls I hl
  obtain ⟨hx, hb, hml, hown, hts, hret, hini, hfr, hlo, hce, hsl, had, hh0, hG, hZ⟩ := id cX
  exact W.lcmp hx hb hd (k p l e R s m args below meth c D dA ad h0 nb wb Qf cX K H locs ls I hl)
theorem x_i2l {x : Int32} (hd : decode E.1.2.1 pc = .ok (.i2l, 1)) (k : Ex E (pc + 1) L (.long (x.toInt64) :: S) M Q) : Ex E pc L (.int x :: S) M Q := by
  intro p l e R s m args below meth c D dA ad h0 nb wb Qf cX K H locs ls I hl
  obtain ⟨hx, hb, hml, hown, hts, hret, hini, hfr, hlo, hce, hsl, had, hh0, hG, hZ⟩ := id cX
  exact lv_i2l hx hb hd rfl (k p l e R s m args below meth c D dA ad h0 nb wb Qf cX K H locs ls I hl)
theorem x_l2i {x : Int64} (hd : decode E.1.2.1 pc = .ok (.l2i, 1)) (k : Ex E (pc + 1) L (.int (x.toInt32) :: S) M Q) : Ex E pc L (.long x :: S) M Q := by
  intro p l e R s m args below meth c D dA ad h0 nb wb Qf cX K H locs ls I hl
  obtain ⟨hx, hb, hml, hown, hts, hret, hini, hfr, hlo, hce, hsl, had, hh0, hG, hZ⟩ := id cX
  exact lv_l2i hx hb hd rfl (k p l e R s m args below meth c D dA ad h0 nb wb Qf cX K H locs ls I hl)
theorem x_i2c {x : Int32} (hd : decode E.1.2.1 pc = .ok (.i2c, 1)) (k : Ex E (pc + 1) L (.int ((x.toUInt32 % 65536).toInt32) :: S) M Q) : Ex E pc L (.int x :: S) M Q := by
  intro p l e R s m args below meth c D dA ad h0 nb wb Qf cX K H locs ls I hl
  obtain ⟨hx, hb, hml, hown, hts, hret, hini, hfr, hlo, hce, hsl, had, hh0, hG, hZ⟩ := id cX
  exact lv_i2c hx hb hd rfl (k p l e R s m args below meth c D dA ad h0 nb wb Qf cX K H locs ls I hl)
theorem x_dup {v : Value} (hd : decode E.1.2.1 pc = .ok (.dup, 1)) (hc : v.category = 1) (k : Ex E (pc + 1) L (v :: v :: S) M Q) : Ex E pc L (v :: S) M Q := by
  intro p l e R s m args below meth c D dA ad h0 nb wb Qf cX K H locs ls I hl
  obtain ⟨hx, hb, hml, hown, hts, hret, hini, hfr, hlo, hce, hsl, had, hh0, hG, hZ⟩ := id cX
  exact lv_dup hx hb hd (by rw [xv_cat]; exact hc) (k p l e R s m args below meth c D dA ad h0 nb wb Qf cX K H locs ls I hl)
theorem x_pop {v : Value} (hd : decode E.1.2.1 pc = .ok (.pop, 1)) (hc : v.category = 1) (k : Ex E (pc + 1) L S M Q) : Ex E pc L (v :: S) M Q := by
  intro p l e R s m args below meth c D dA ad h0 nb wb Qf cX K H locs ls I hl
  obtain ⟨hx, hb, hml, hown, hts, hret, hini, hfr, hlo, hce, hsl, had, hh0, hG, hZ⟩ := id cX
  exact lv_pop hx hb hd (by rw [xv_cat]; exact hc) (k p l e R s m args below meth c D dA ad h0 nb wb Qf cX K H locs ls I hl)
theorem x_dup2 {v w : Value} (hd : decode E.1.2.1 pc = .ok (.dup2, 1)) (hc : v.category = 1) (hw : w.category = 1) (k : Ex E (pc + 1) L (v :: w :: v :: w :: S) M Q) : Ex E pc L (v :: w :: S) M Q := by
  intro p l e R s m args below meth c D dA ad h0 nb wb Qf cX K H locs ls I hl
  obtain ⟨hx, hb, hml, hown, hts, hret, hini, hfr, hlo, hce, hsl, had, hh0, hG, hZ⟩ := id cX
  exact lv_dup2_11 hx hb hd (by rw [xv_cat]; exact hc) (by rw [xv_cat]; exact hw) (k p l e R s m args below meth c D dA ad h0 nb wb Qf cX K H locs ls I hl)
theorem x_if_eq {x : Int32} {off : Int} {tgt : Nat} (hd : decode E.1.2.1 pc = .ok (.ifCond .eq off, 3)) (ht : (pc : Int) + off = (tgt : Int)) (kt : x = 0 → Ex E tgt L S M Q) (kf : ¬ x = 0 → Ex E (pc + 3) L S M Q) : Ex E pc L (.int x :: S) M Q := by
  intro p l e R s m args below meth c D dA ad h0 nb wb Qf cX K H locs ls I hl
  obtain ⟨hx, hb, hml, hown, hts, hret, hini, hfr, hlo, hce, hsl, had, hh0, hG, hZ⟩ := id cX
  exact lv_if_eq hx hb hd ht (fun h => kt h p l e R s m args below meth c D dA ad h0 nb wb Qf cX K H locs ls I hl) (fun h => kf h p l e R s m args below meth c D dA ad h0 nb wb Qf cX K H locs ls I hl)
theorem x_icmp_eq {x y : Int32} {off : Int} {tgt : Nat} (hd : decode E.1.2.1 pc = .ok (.if_icmp .eq off, 3)) (ht : (pc : Int) + off = (tgt : Int)) (kt : x = y → Ex E tgt L S M Q) (kf : ¬ x = y → Ex E (pc + 3) L S M Q) : Ex E pc L (.int y :: .int x :: S) M Q := by
  intro p l e R s m args below meth c D dA ad h0 nb wb Qf cX K H locs ls I hl
  obtain ⟨hx, hb, hml, hown, hts, hret, hini, hfr, hlo, hce, hsl, had, hh0, hG, hZ⟩ := id cX
  exact lv_icmp_eq hx hb hd ht (fun h => kt h p l e R s m args below meth c D dA ad h0 nb wb Qf cX K H locs ls I hl) (fun h => kf h p l e R s m args below meth c D dA ad h0 nb wb Qf cX K H locs ls I hl)
theorem x_if_ne {x : Int32} {off : Int} {tgt : Nat} (hd : decode E.1.2.1 pc = .ok (.ifCond .ne off, 3)) (ht : (pc : Int) + off = (tgt : Int)) (kt : ¬ x = 0 → Ex E tgt L S M Q) (kf : x = 0 → Ex E (pc + 3) L S M Q) : Ex E pc L (.int x :: S) M Q := by
  intro p l e R s m args below meth c D dA ad h0 nb wb Qf cX K H locs ls I hl
  obtain ⟨hx, hb, hml, hown, hts, hret, hini, hfr, hlo, hce, hsl, had, hh0, hG, hZ⟩ := id cX
  exact lv_if_ne hx hb hd ht (fun h => kt h p l e R s m args below meth c D dA ad h0 nb wb Qf cX K H locs ls I hl) (fun h => kf h p l e R s m args below meth c D dA ad h0 nb wb Qf cX K H locs ls I hl)
theorem x_icmp_ne {x y : Int32} {off : Int} {tgt : Nat} (hd : decode E.1.2.1 pc = .ok (.if_icmp .ne off, 3)) (ht : (pc : Int) + off = (tgt : Int)) (kt : ¬ x = y → Ex E tgt L S M Q) (kf : x = y → Ex E (pc + 3) L S M Q) : Ex E pc L (.int y :: .int x :: S) M Q := by
  intro p l e R s m args below meth c D dA ad h0 nb wb Qf cX K H locs ls I hl
  obtain ⟨hx, hb, hml, hown, hts, hret, hini, hfr, hlo, hce, hsl, had, hh0, hG, hZ⟩ := id cX
  exact lv_icmp_ne hx hb hd ht (fun h => kt h p l e R s m args below meth c D dA ad h0 nb wb Qf cX K H locs ls I hl) (fun h => kf h p l e R s m args below meth c D dA ad h0 nb wb Qf cX K H locs ls I hl)
theorem x_if_lt {x : Int32} {off : Int} {tgt : Nat} (hd : decode E.1.2.1 pc = .ok (.ifCond .lt off, 3)) (ht : (pc : Int) + off = (tgt : Int)) (kt : x < 0 → Ex E tgt L S M Q) (kf : ¬ x < 0 → Ex E (pc + 3) L S M Q) : Ex E pc L (.int x :: S) M Q := by
  intro p l e R s m args below meth c D dA ad h0 nb wb Qf cX K H locs ls I hl
  obtain ⟨hx, hb, hml, hown, hts, hret, hini, hfr, hlo, hce, hsl, had, hh0, hG, hZ⟩ := id cX
  exact lv_if_lt hx hb hd ht (fun h => kt h p l e R s m args below meth c D dA ad h0 nb wb Qf cX K H locs ls I hl) (fun h => kf h p l e R s m args below meth c D dA ad h0 nb wb Qf cX K H locs ls I hl)
theorem x_icmp_lt {x y : Int32} {off : Int} {tgt : Nat} (hd : decode E.1.2.1 pc = .ok (.if_icmp .lt off, 3)) (ht : (pc : Int) + off = (tgt : Int)) (kt : x < y → Ex E tgt L S M Q) (kf : ¬ x < y → Ex E (pc + 3) L S M Q) : Ex E pc L (.int y :: .int x :: S) M Q := by
  intro p l e R s m args below meth c D dA ad h0 nb wb Qf cX K H locs ls I hl
  obtain ⟨hx, hb, hml, hown, hts, hret, hini, hfr, hlo, hce, hsl, had, hh0, hG, hZ⟩ := id cX
  exact lv_icmp_lt hx hb hd ht (fun h => kt h p l e R s m args below meth c D dA ad h0 nb wb Qf cX K H locs ls I hl) (fun h => kf h p l e R s m args below meth c D dA ad h0 nb wb Qf cX K H locs ls I hl)
theorem x_if_ge {x : Int32} {off : Int} {tgt : Nat} (hd : decode E.1.2.1 pc = .ok (.ifCond .ge off, 3)) (ht : (pc : Int) + off = (tgt : Int)) (kt : 0 ≤ x → Ex E tgt L S M Q) (kf : ¬ 0 ≤ x → Ex E (pc + 3) L S M Q) : Ex E pc L (.int x :: S) M Q := by
  intro p l e R s m args below meth c D dA ad h0 nb wb Qf cX K H locs ls I hl
  obtain ⟨hx, hb, hml, hown, hts, hret, hini, hfr, hlo, hce, hsl, had, hh0, hG, hZ⟩ := id cX
  exact lv_if_ge hx hb hd ht (fun h => kt h p l e R s m args below meth c D dA ad h0 nb wb Qf cX K H locs ls I hl) (fun h => kf h p l e R s m args below meth c D dA ad h0 nb wb Qf cX K H locs ls I hl)
theorem x_icmp_ge {x y : Int32} {off : Int} {tgt : Nat} (hd : decode E.1.2.1 pc = .ok (.if_icmp .ge off, 3)) (ht : (pc : Int) + off = (tgt : Int)) (kt : y ≤ x → Ex E tgt L S M Q) (kf : ¬ y ≤ x → Ex E (pc + 3) L S M Q) : Ex E pc L (.int y :: .int x :: S) M Q := by
  intro p l e R s m args below meth c D dA ad h0 nb wb Qf cX K H locs ls I hl
  obtain ⟨hx, hb, hml, hown, hts, hret, hini, hfr, hlo, hce, hsl, had, hh0, hG, hZ⟩ := id cX
  exact lv_icmp_ge hx hb hd ht (fun h => kt h p l e R s m args below meth c D dA ad h0 nb wb Qf cX K H locs ls I hl) (fun h => kf h p l e R s m args below meth c D dA ad h0 nb wb Qf cX K H locs ls I hl)
theorem x_if_gt {x : Int32} {off : Int} {tgt : Nat} (hd : decode E.1.2.1 pc = .ok (.ifCond .gt off, 3)) (ht : (pc : Int) + off = (tgt : Int)) (kt : 0 < x → Ex E tgt L S M Q) (kf : ¬ 0 < x → Ex E (pc + 3) L S M Q) : Ex E pc L (.int x :: S) M Q := by
  intro p l e R s m args below meth c D dA ad h0 nb wb Qf cX K H locs ls I hl
  obtain ⟨hx, hb, hml, hown, hts, hret, hini, hfr, hlo, hce, hsl, had, hh0, hG, hZ⟩ := id cX
  exact lv_if_gt hx hb hd ht (fun h => kt h p l e R s m args below meth c D dA ad h0 nb wb Qf cX K H locs ls I hl) (fun h => kf h p l e R s m args below meth c D dA ad h0 nb wb Qf cX K H locs ls I hl)
theorem x_icmp_gt {x y : Int32} {off : Int} {tgt : Nat} (hd : decode E.1.2.1 pc = .ok (.if_icmp .gt off, 3)) (ht : (pc : Int) + off = (tgt : Int)) (kt : y < x → Ex E tgt L S M Q) (kf : ¬ y < x → Ex E (pc + 3) L S M Q) : Ex E pc L (.int y :: .int x :: S) M Q := by
  intro p l e R s m args below meth c D dA ad h0 nb wb Qf cX K H locs ls I hl
  obtain ⟨hx, hb, hml, hown, hts, hret, hini, hfr, hlo, hce, hsl, had, hh0, hG, hZ⟩ := id cX
  exact lv_icmp_gt hx hb hd ht (fun h => kt h p l e R s m args below meth c D dA ad h0 nb wb Qf cX K H locs ls I hl) (fun h => kf h p l e R s m args below meth c D dA ad h0 nb wb Qf cX K H locs ls I hl)
theorem x_if_le {x : Int32} {off : Int} {tgt : Nat} (hd : decode E.1.2.1 pc = .ok (.ifCond .le off, 3)) (ht : (pc : Int) + off = (tgt : Int)) (kt : x ≤ 0 → Ex E tgt L S M Q) (kf : ¬ x ≤ 0 → Ex E (pc + 3) L S M Q) : Ex E pc L (.int x :: S) M Q := by
  intro p l e R s m args below meth c D dA ad h0 nb wb Qf cX K H locs ls I hl
  obtain ⟨hx, hb, hml, hown, hts, hret, hini, hfr, hlo, hce, hsl, had, hh0, hG, hZ⟩ := id cX
  exact lv_if_le hx hb hd ht (fun h => kt h p l e R s m args below meth c D dA ad h0 nb wb Qf cX K H locs ls I hl) (fun h => kf h p l e R s m args below meth c D dA ad h0 nb wb Qf cX K H locs ls I hl)
theorem x_icmp_le {x y : Int32} {off : Int} {tgt : Nat} (hd : decode E.1.2.1 pc = .ok (.if_icmp .le off, 3)) (ht : (pc : Int) + off = (tgt : Int)) (kt : x ≤ y → Ex E tgt L S M Q) (kf : ¬ x ≤ y → Ex E (pc + 3) L S M Q) : Ex E pc L (.int y :: .int x :: S) M Q := by
  intro p l e R s m args below meth c D dA ad h0 nb wb Qf cX K H locs ls I hl
  obtain ⟨hx, hb, hml, hown, hts, hret, hini, hfr, hlo, hce, hsl, had, hh0, hG, hZ⟩ := id cX
  exact lv_icmp_le hx hb hd ht (fun h => kt h p l e R s m args below meth c D dA ad h0 nb wb Qf cX K H locs ls I hl) (fun h => kf h p l e R s m args below meth c D dA ad h0 nb wb Qf cX K H locs ls I hl)
theorem x_goto {off : Int} {tgt : Nat} (hd : decode E.1.2.1 pc = .ok (.goto off, 3)) (ht : (pc : Int) + off = (tgt : Int)) (k : Ex E tgt L S M Q) : Ex E pc L S M Q := by
  intro p l e R s m args below meth c D dA ad h0 nb wb Qf cX K H locs ls I hl
  obtain ⟨hx, hb, hml, hown, hts, hret, hini, hfr, hlo, hce, hsl, had, hh0, hG, hZ⟩ := id cX
  exact lv_goto hx hb hd ht (k p l e R s m args below meth c D dA ad h0 nb wb Qf cX K H locs ls I hl)
theorem x_tabOut {dflt lo hi : Int} {offs : Array Int} {len : Nat} {x : Int32} {tgt : Nat} (hd : decode E.1.2.1 pc = .ok (.tableswitch dflt lo hi offs, len)) (h : x.toInt < lo ∨ hi < x.toInt) (ht : (pc : Int) + dflt = (tgt : Int)) (k : Ex E tgt L S M Q) : Ex E pc L (.int x :: S) M Q := by
  intro p l e R s m args below meth c D dA ad h0 nb wb Qf cX K H locs ls I hl
  obtain ⟨hx, hb, hml, hown, hts, hret, hini, hfr, hlo, hce, hsl, had, hh0, hG, hZ⟩ := id cX
  exact lv_tableOut hx hb hd h ht (k p l e R s m args below meth c D dA ad h0 nb wb Qf cX K H locs ls I hl)
theorem x_tabIn {dflt lo hi : Int} {offs : Array Int} {len : Nat} {x : Int32} {off : Int} {tgt : Nat} (hd : decode E.1.2.1 pc = .ok (.tableswitch dflt lo hi offs, len)) (h1 : ¬ x.toInt < lo) (h2 : ¬ hi < x.toInt) (ho : offs[(x.toInt - lo).toNat]? = some off) (ht : (pc : Int) + off = (tgt : Int)) (k : Ex E tgt L S M Q) : Ex E pc L (.int x :: S) M Q := by
  intro p l e R s m args below meth c D dA ad h0 nb wb Qf cX K H locs ls I hl
  obtain ⟨hx, hb, hml, hown, hts, hret, hini, hfr, hlo, hce, hsl, had, hh0, hG, hZ⟩ := id cX
  exact lv_tableIn hx hb hd h1 h2 ho ht (k p l e R s m args below meth c D dA ad h0 nb wb Qf cX K H locs ls I hl)
end XR
