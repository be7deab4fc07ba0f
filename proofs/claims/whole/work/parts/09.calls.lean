/-! ===== Ex: the JDK's natives, statics, texts, the script; contracts and calls ===== -/
section XJ
variable {E : xE} {pc : Nat} {L S : List Value} {M : xM} {Q Q' : Option Value → xM → Prop}
/-- System.arraycopy of ints, from 0 to 0 -/
theorem x_copy {a0 a n0 n1 index : Nat} {f g : Nat → Int32} {n : Int32} (hd : decode E.1.2.1 pc = .ok (.invokestatic index, 3)) (hw : Cond.methodLink E.1.1.cls index arraycopyName ∈ xT) (hnat : Cond.native arraycopyName ∈ xT) (hstat : Cond.static arraycopyName ∈ xT) (hii : Cond.initialized "java/lang/System" ∈ xT) (ha0 : a0 < M.2.1) (hM0 : M.1 a0 = .inl (0, n0, .inl f)) (ha : a < M.2.1) (hM : M.1 a = .inl (0, n1, .inl g)) (h3 : ¬ n < 0) (h4 : n.toNatClampNeg ≤ n0) (h5 : n.toNatClampNeg ≤ n1) (hS : S.length ≤ 4) (hdp : 1 ≤ E.2.1) (kk : Ex E (pc + 3) L S (xu M.1 a (.inl (0, n1, .inl (va_cpy f g 0 0 n.toNatClampNeg))), M.2) Q) : Ex E pc L (.int n :: .int 0 :: .ref a :: .int 0 :: .ref a0 :: S) M Q := by
  intro p l e R s m args below meth c D dA ad h0 nb wb Qf cX K H locs ls I hl
  obtain ⟨hx, hb, hml, hown, hts, hret, hini, hfr, hlo, hce, hsl, had, hh0, hG, hZ⟩ := id cX
  have nn : ∀ z : Int32, ¬ z < 0 → z.toInt = (z.toNatClampNeg : Int) := by
    intro z hz
    have hz0 : (0 : Int) ≤ z.toInt := by
      have := Int32.not_lt.mp hz
      simpa using Int32.le_iff_toInt_le.mp this
    show z.toInt = ((z.toInt.toNat : Nat) : Int)
    omega
  have e00 : (0 : Int32).toNatClampNeg = 0 := by decide
  have h1 : ¬ (0 : Int32) < 0 := by decide
  have hS9 := xcat_sum (ad := ad) hS
  have hwd : nativeFrameWords "java/lang/System" "arraycopy" 5 + 11 ≤ 56 := by decide +kernel
  have hP0 := I.1 a0 ha0
  rw [hM0] at hP0
  have hP1 := I.1 a ha
  rw [hM] at hP1
  intro T hT X
  have hc0 : H[ad a0]? = some (vp_cell (dA 0) (n0, .inl f)) := hP0
  have hc1 : H[ad a]? = some (vp_cell (dA 0) (n1, .inl g)) := hP1
  obtain ⟨-, k0, hk0, cm0, hkk0⟩ := (hG.1.2 0 _ rfl).1 n0 (fun j => .int (f j))
  obtain ⟨-, k1, hk1, cm1, hkk1⟩ := (hG.1.2 0 _ rfl).1 n1 (fun j => .int (g j))
  obtain ⟨vm', X', step⟩ := X.arraycopy hx hown (hts _ hw) (hts _ hnat) (hts _ hstat) (hts _ hii) (src := ad a0) (dst := ad a) (cs := vp_cell (dA 0) (n0, .inl f)) (cd := vp_cell (dA 0) (n1, .inl g)) (srcPos := 0) (destPos := 0) (n := n) (by rw [hT]; exact hc0) (by rw [hT]; exact hc1)
    (fun _ h => by cases h) (fun _ h => by cases h) (fun h => by cases h) (fun h => by cases h) hk0 hk1 hkk0 hkk1 (by simp) h1 h1 h3
    (by rw [nn 0 h1, nn n h3, e00]; show ¬ _ > ((arrV (dA 0) n0 (fun j => .int (f j))).slots.size : Int); rw [arrV_size]; omega)
    (by rw [nn 0 h1, nn n h3, e00]; show ¬ _ > ((arrV (dA 0) n1 (fun j => .int (g j))).slots.size : Int); rw [arrV_size]; omega)
    (fun vm₁ _ i hi => by
      have e : (vp_cell (dA 0) (n0, .inl f)).slots.getD ((0 : Int32).toNatClampNeg + i) .null = .int (f (0 + i)) := by
        rw [e00]
        show (arrV (dA 0) n0 (fun j => .int (f j))).slots.getD _ _ = _
        rw [Array.getD_eq_getD_getElem?, arrV_read _ _ (by omega)]
        rfl
      refine ⟨?_, ?_⟩
      · rw [e]
        rfl
      · rw [e]
        exact trivial)
    (g := F0 m pc ls (.int n :: .int 0 :: .ref (ad a) :: .int 0 :: .ref (ad a0) :: S.map (xv ad))) rfl (by rw [hml]; exact hl.1) (rest := S.map (xv ad)) rfl (by rw [hb]; exact hd) (by omega) (by show 2 * 0 + _ + _ ≤ _; omega)
  have e1 : copied (vp_cell (dA 0) (n0, .inl f)) (vp_cell (dA 0) (n1, .inl g)) 0 0 n = vp_cell (dA 0) (n1, .inl (va_cpy f g 0 0 n.toNatClampNeg)) := va_copied (fun z => .int z) (dA 0) (dA 0) f g (sp := 0) (dp := 0) (n := n.toNatClampNeg) (by omega)
  rw [e1] at X' step
  have hl9 : ad a < H.size := (Array.getElem?_eq_some_iff.mp hc1).1
  have hheap : ((T.setVm vm').setCell (ad a) (vp_cell (dA 0) (n1, .inl (va_cpy f g 0 0 n.toNatClampNeg)))).heap = H.setIfInBounds (ad a) (vp_cell (dA 0) (n1, .inl (va_cpy f g 0 0 n.toNatClampNeg))) := by rw [← hT]; rfl
  have oq : ∀ q : Nat, q ≠ ad a → (H.setIfInBounds (ad a) (vp_cell (dA 0) (n1, .inl (va_cpy f g 0 0 n.toNatClampNeg))))[q]? = H[q]? := fun q hq => by simp [Array.getElem?_setIfInBounds, Ne.symm hq]
  obtain ⟨t, a1, b1⟩ := kk p l e R s m args below meth c D dA ad h0 nb wb Qf cX K _ _ ls (xI_put had I ha (H1 := H.setIfInBounds (ad a) (vp_cell (dA 0) (n1, .inl (va_cpy f g 0 0 n.toNatClampNeg)))) (show (H.setIfInBounds (ad a) _)[ad a]? = some _ by simp [Array.getElem?_setIfInBounds, hl9]) (by simp) oq (fun l h => by
      obtain ⟨z, -, hz⟩ := List.mem_map.mp h
      rw [← hz])) hl _ hheap X'
  exact ⟨t, step t a1, b1⟩
theorem x_max {index : Nat} {x y : Int32} (hd : decode E.1.2.1 pc = .ok (.invokestatic index, 3)) (hw : Cond.methodLink E.1.1.cls index Lib.Math.max.name ∈ xT) (h1 : Cond.static Lib.Math.max.name ∈ xT) (h2 : Cond.initialized "java/lang/Math" ∈ xT) (h3 : Cond.code Lib.Math.max.name Lib.Math.max.code 2 (some .int) ∈ xT) (hS : S.length ≤ 4) (hdp : 1 ≤ E.2.1) (hB : M.2.1 ≤ E.2.2.1.1 ∧ M.2.2 ≤ E.2.2.1.2) (kk : Ex E (pc + 3) L (.int (if x < y then y else x) :: S) M Q) : Ex E pc L (.int y :: .int x :: S) M Q := by
  intro p l e R s m args below meth c D dA ad h0 nb wb Qf cX K H locs ls I hl
  obtain ⟨hx, hb, hml, hown, hts, hret, hini, hfr, hlo, hce, hsl, had, hh0, hG, hZ⟩ := id cX
  have hS9 := xcat_sum (ad := ad) hS
  exact va_mmax hx hb (by rw [hml]; exact hl.1.symm) hown (hts _ hw) (hts _ h1) (hts _ h2) (hts _ h3) (by omega) (by omega) (by omega) (by omega) hd (kk p l e R s m args below meth c D dA ad h0 nb wb Qf cX K H locs ls I hl)
theorem x_min {index : Nat} {x y : Int32} (hd : decode E.1.2.1 pc = .ok (.invokestatic index, 3)) (hw : Cond.methodLink E.1.1.cls index Lib.Math.min.name ∈ xT) (h1 : Cond.static Lib.Math.min.name ∈ xT) (h2 : Cond.initialized "java/lang/Math" ∈ xT) (h3 : Cond.code Lib.Math.min.name Lib.Math.min.code 2 (some .int) ∈ xT) (hS : S.length ≤ 4) (hdp : 1 ≤ E.2.1) (hB : M.2.1 ≤ E.2.2.1.1 ∧ M.2.2 ≤ E.2.2.1.2) (kk : Ex E (pc + 3) L (.int (if y < x then y else x) :: S) M Q) : Ex E pc L (.int y :: .int x :: S) M Q := by
  intro p l e R s m args below meth c D dA ad h0 nb wb Qf cX K H locs ls I hl
  obtain ⟨hx, hb, hml, hown, hts, hret, hini, hfr, hlo, hce, hsl, had, hh0, hG, hZ⟩ := id cX
  have hS9 := xcat_sum (ad := ad) hS
  exact va_mmin hx hb (by rw [hml]; exact hl.1.symm) hown (hts _ hw) (hts _ h1) (hts _ h2) (hts _ h3) (by omega) (by omega) (by omega) (by omega) hd (kk p l e R s m args below meth c D dA ad h0 nb wb Qf cX K H locs ls I hl)
theorem xS_of {D : va_G} {dA : Nat → ClassId} {ad : Nat → Nat} {h0 nb wb : Nat} {s : State} {M : xM} {H : Heap} {locs : List Loc} (hh0 : s.heap.size = h0 + nb) (I : xI D dA ad h0 nb wb s M H locs) : va_S (fun q => h0 ≤ q) s.heap H locs := ⟨by have h1 := I.2.1; have h2 := I.2.2.2.2.1; omega, fun q _ h => I.2.2.1 q (Nat.lt_of_not_le h), I.2.2.2.1⟩
/-- the texts: a constant, its bytes, their number, a byte; the two statics -/
theorem x_ldcs {i index : Nat} (hd : decode E.1.2.1 pc = .ok (.ldc index, 2)) (ho : E.1.1.cls = RX7) (hi : i < 8) (hx9 : xsi.getD i 0 = index) (kk : Ex E (pc + 2) L (.ref (1000001 + i) :: S) M Q) : Ex E pc L S M Q := by
  intro p l e R s m args below meth c D dA ad h0 nb wb Qf cX K H locs ls I hl
  obtain ⟨hx, hb, hml, hown, hts, hret, hini, hfr, hlo, hce, hsl, had, hh0, hG, hZ⟩ := id cX
  have h := hG.2.2.2.1 i hi
  rw [hx9] at h
  rw [ho] at hown
  exact va_ldcS hx hb hown h hd (kk p l e R s m args below meth c D dA ad h0 nb wb Qf cX K H locs ls I hl)
theorem x_strval {i index : Nat} (hd : decode E.1.2.1 pc = .ok (.getfield index, 3)) (hw : Cond.fieldLink E.1.1.cls index "java/lang/String" "value" "[B" ∈ xT) (hi : i < 8) (kk : Ex E (pc + 3) L (.ref (1000101 + i) :: S) M Q) : Ex E pc L (.ref (1000001 + i) :: S) M Q := by
  intro p l e R s m args below meth c D dA ad h0 nb wb Qf cX K H locs ls I hl
  obtain ⟨hx, hb, hml, hown, hts, hret, hini, hfr, hlo, hce, hsl, had, hh0, hG, hZ⟩ := id cX
  obtain ⟨cf, k, i', f, cell, h1, h2, h3, h4, h5, h6⟩ := (hG.2.2.1.1 i hi).2.2.1
  exact W.getf hx hb hown (hts _ hw) h1 h2 (by rw [I.2.2.1 _ (Nat.lt_of_not_le h6)]; exact h3) h4 (v := .ref (ad (1000101 + i))) h5 rfl rfl hd (kk p l e R s m args below meth c D dA ad h0 nb wb Qf cX K H locs ls I hl)
theorem x_strcod {i index : Nat} (hd : decode E.1.2.1 pc = .ok (.getfield index, 3)) (hw : Cond.fieldLink E.1.1.cls index "java/lang/String" "coder" "B" ∈ xT) (hi : i < 8) (kk : Ex E (pc + 3) L (.int 0 :: S) M Q) : Ex E pc L (.ref (1000001 + i) :: S) M Q := by
  intro p l e R s m args below meth c D dA ad h0 nb wb Qf cX K H locs ls I hl
  obtain ⟨hx, hb, hml, hown, hts, hret, hini, hfr, hlo, hce, hsl, had, hh0, hG, hZ⟩ := id cX
  obtain ⟨cf, k, i', f, cell, h1, h2, h3, h4, h5, h6⟩ := (hG.2.2.1.1 i hi).2.1
  exact W.getf hx hb hown (hts _ hw) h1 h2 (by rw [I.2.2.1 _ (Nat.lt_of_not_le h6)]; exact h3) h4 (v := .int 0) h5 rfl rfl hd (kk p l e R s m args below meth c D dA ad h0 nb wb Qf cX K H locs ls I hl)
theorem xT_kept {D : va_G} {dA : Nat → ClassId} {ad : Nat → Nat} {h0 nb wb : Nat} {s : State} {M : xM} {H : Heap} {locs : List Loc} (I : xI D dA ad h0 nb wb s M H locs) {ty : FieldType} {t N : Nat} {f : Nat → Value} (h : va_T ty t N f (fun q => h0 ≤ q) s s.heap) : va_T ty t N f (fun q => h0 ≤ q) s H := by
  obtain ⟨cell, h1, h2, h3, h4, h5, h6, h7⟩ := h
  exact ⟨cell, by rw [I.2.2.1 _ (Nat.lt_of_not_le h7)]; exact h1, h2, h3, h4, h5, h6, h7⟩
theorem x_bytlen {i : Nat} (hd : decode E.1.2.1 pc = .ok (.arraylength, 1)) (hi : i < 8) (kk : Ex E (pc + 1) L (.int (nI (xlen.getD i 0)) :: S) M Q) : Ex E pc L (.ref (1000101 + i) :: S) M Q := by
  intro p l e R s m args below meth c D dA ad h0 nb wb Qf cX K H locs ls I hl
  obtain ⟨hx, hb, hml, hown, hts, hret, hini, hfr, hlo, hce, hsl, had, hh0, hG, hZ⟩ := id cX
  obtain ⟨cell, h1, h2, h3, h4, h5, h6, h7⟩ := xT_kept I (hG.2.2.1.1 i hi).2.2.2
  exact W.alen hx hb h1 h2 (by exact h5) rfl rfl hd (kk p l e R s m args below meth c D dA ad h0 nb wb Qf cX K H locs ls I hl)
theorem x_byt {i : Nat} {j : Int32} (hd : decode E.1.2.1 pc = .ok (.baload, 1)) (hi : i < 8) (hj : vp_in j (xlen.getD i 0)) (kk : Ex E (pc + 1) L (.int ((xbyt.getD i []).getD j.toNatClampNeg 0) :: S) M Q) : Ex E pc L (.int j :: .ref (1000101 + i) :: S) M Q := by
  intro p l e R s m args below meth c D dA ad h0 nb wb Qf cX K H locs ls I hl
  obtain ⟨hx, hb, hml, hown, hts, hret, hini, hfr, hlo, hce, hsl, had, hh0, hG, hZ⟩ := id cX
  obtain ⟨cell, h1, h2, h3, h4, h5, h6, h7⟩ := xT_kept I (hG.2.2.1.1 i hi).2.2.2
  have hlt : j.toNatClampNeg < xlen.getD i 0 := Nat.not_le.mp fun q => hj (Or.inr q)
  have hin' : ¬ (j < 0 ∨ cell.slots.size ≤ j.toNatClampNeg) := by
    intro q
    rcases q with q | q
    · exact hj (Or.inl q)
    · omega
  exact W.bald (v := .int ((xbyt.getD i []).getD j.toNatClampNeg 0)) hx hb h1 h2 h3 hin' (h6 _ hlt) rfl rfl hd (kk p l e R s m args below meth c D dA ad h0 nb wb Qf cX K H locs ls I hl)
theorem x_getcs {index : Nat} (hd : decode E.1.2.1 pc = .ok (.getstatic index, 3)) (hw : Cond.fieldLink E.1.1.cls index "java/lang/String" "COMPACT_STRINGS" "Z" ∈ xT) (kk : Ex E (pc + 3) L (.int 1 :: S) M Q) : Ex E pc L S M Q := by
  intro p l e R s m args below meth c D dA ad h0 nb wb Qf cX K H locs ls I hl
  obtain ⟨hx, hb, hml, hown, hts, hret, hini, hfr, hlo, hce, hsl, had, hh0, hG, hZ⟩ := id cX
  exact va_gets hx hb hG.2.2.2.2.1 (xS_of hh0 I) hown (hts _ hw) (fun _ h => h) hd (kk p l e R s m args below meth c D dA ad h0 nb wb Qf cX K H locs ls I hl)
theorem x_getfm {index : Nat} (hd : decode E.1.2.1 pc = .ok (.getstatic index, 3)) (hw : Cond.fieldLink E.1.1.cls index "jdk/internal/util/Preconditions" "SIOOBE_FORMATTER" xFm ∈ xT) (k1 : Ex E (pc + 3) L (.null :: S) M Q) (k2 : Ex E (pc + 3) L (.ref 1000200 :: S) M Q) : Ex E pc L S M Q := by
  intro p l e R s m args below meth c D dA ad h0 nb wb Qf cX K H locs ls I hl
  obtain ⟨hx, hb, hml, hown, hts, hret, hini, hfr, hlo, hce, hsl, had, hh0, hG, hZ⟩ := id cX
  obtain ⟨v, h6, h7⟩ := hG.2.2.2.2.2.1
  rcases h7 with rfl | rfl
  · exact va_gets hx hb h6 (xS_of hh0 I) hown (hts _ hw) (fun _ h => h) hd (k1 p l e R s m args below meth c D dA ad h0 nb wb Qf cX K H locs ls I hl)
  · exact va_gets hx hb h6 (xS_of hh0 I) hown (hts _ hw) (fun _ h => h) hd (k2 p l e R s m args below meth c D dA ad h0 nb wb Qf cX K H locs ls I hl)
/-- the script -/
theorem x_slen {Z : Nat × (Nat → Int32)} (hd : decode E.1.2.1 pc = .ok (.arraylength, 1)) (hz : E.2.2.2 = some Z) (kk : Ex E (pc + 1) L (.int (nI Z.1) :: S) M Q) : Ex E pc L (.ref 1000000 :: S) M Q := by
  intro p l e R s m args below meth c D dA ad h0 nb wb Qf cX K H locs ls I hl
  obtain ⟨hx, hb, hml, hown, hts, hret, hini, hfr, hlo, hce, hsl, had, hh0, hG, hZ⟩ := id cX
  obtain ⟨hX, hlt⟩ := hZ Z hz
  exact va_slen hx hb hX (by omega) (Nat.not_le.mpr hlt) (xS_of hh0 I) hd (kk p l e R s m args below meth c D dA ad h0 nb wb Qf cX K H locs ls I hl)
theorem x_sld {Z : Nat × (Nat → Int32)} {i : Int32} (hd : decode E.1.2.1 pc = .ok (.iaload, 1)) (hz : E.2.2.2 = some Z) (hi : vp_in i Z.1) (kk : Ex E (pc + 1) L (.int (Z.2 i.toNatClampNeg) :: S) M Q) : Ex E pc L (.int i :: .ref 1000000 :: S) M Q := by
  intro p l e R s m args below meth c D dA ad h0 nb wb Qf cX K H locs ls I hl
  obtain ⟨hx, hb, hml, hown, hts, hret, hini, hfr, hlo, hce, hsl, had, hh0, hG, hZ⟩ := id cX
  obtain ⟨hX, hlt⟩ := hZ Z hz
  exact va_sld hx hb hX (by omega) (Nat.not_le.mpr hlt) (xS_of hh0 I) hi hd (kk p l e R s m args below meth c D dA ad h0 nb wb Qf cX K H locs ls I hl)
/-- returns -/
theorem x_ret (hd : decode E.1.2.1 pc = .ok (.return_, 1)) (hr : E.1.2.2.2 = none) (hq : Q none M) : Ex E pc L [] M Q := by
  intro p l e R s m args below meth c D dA ad h0 nb wb Qf cX K H locs ls I hl
  obtain ⟨hx, hb, hml, hown, hts, hret, hini, hfr, hlo, hce, hsl, had, hh0, hG, hZ⟩ := id cX
  exact K pc ls none M H locs ⟨hd, hr⟩ hq I
theorem x_iret {x : Int32} {ty : FieldType} (hd : decode E.1.2.1 pc = .ok (.ireturn, 1)) (hr : E.1.2.2.2 = some ty) (hn : narrow ty (.int x) = .int x) (hq : Q (some (.int x)) M) : Ex E pc L [.int x] M Q := by
  intro p l e R s m args below meth c D dA ad h0 nb wb Qf cX K H locs ls I hl
  obtain ⟨hx, hb, hml, hown, hts, hret, hini, hfr, hlo, hce, hsl, had, hh0, hG, hZ⟩ := id cX
  exact K pc ls (some (.int x)) M H locs ⟨hd, ty, hr, hn⟩ hq I
theorem x_lret {x : Int64} (hd : decode E.1.2.1 pc = .ok (.lreturn, 1)) (hr : E.1.2.2.2 = some .long) (hq : Q (some (.long x)) M) : Ex E pc L [.long x] M Q := by
  intro p l e R s m args below meth c D dA ad h0 nb wb Qf cX K H locs ls I hl
  obtain ⟨hx, hb, hml, hown, hts, hret, hini, hfr, hlo, hce, hsl, had, hh0, hG, hZ⟩ := id cX
  exact K pc ls (some (.long x)) M H locs ⟨hd, hr⟩ hq I
end XJ
/-! ===== contracts ===== -/
def xws (Y : xY) : List Cond := Cond.code Y.1 Y.2.1 Y.2.2.1 Y.2.2.2 :: xT
def xPc (D : va_G) (dA : Nat → ClassId) (ad : Nat → Nat) (h0 : Nat) (M : xM) (As : List Value) : Array Value → State → Prop := va_Pc (As.map (xv ad)) (fun U => (∀ i, i < M.2.1 → va_at D vwCl (ad i, xe ad dA (M.1 i)) U.heap) ∧ U.heap.size = h0 + M.2.1 ∧ xG D dA ad h0 U U.heap)
def xQc (D : va_G) (dA : Nat → ClassId) (ad : Nat → Nat) (h0 : Nat) (Q : Option Value → xM → Prop) : Array Value → State → Outcome → State → Prop := fun _ st o t => ∃ (v : Option Value) (M' : xM), o = .returned (v.map (xv ad)) ∧ Q v M' ∧ (∀ i, i < M'.2.1 → va_at D vwCl (ad i, xe ad dA (M'.1 i)) t.heap) ∧ t.heap.size = h0 + M'.2.1 ∧ M'.2.1 ≤ 1000000 ∧ ∀ q : Nat, q < h0 → t.heap[q]? = st.heap[q]?
def ExM (d : Nat) (Y : xY) (As : List Value) (M : xM) (B : xB) (Q : Option Value → xM → Prop) : Prop :=
  ∀ (l : Launch) (D : va_G) (dA : Nat → ClassId) (ad : Nat → Nat) (h0 : Nat), (∀ i, i < 1000000 → ad i = h0 + i) →
    Met l Y.1 (xws Y) ({ frames := d, cells := B.1 - M.2.1, slots := B.2 - M.2.2, locals := 64 * d }) (xPc D dA ad h0 M As) (xQc D dA ad h0 Q) (B.1 - M.2.1) (B.2 - M.2.2) (fun q => h0 ≤ q)
def xargs : List Value → List Value
  | [] => []
  | v :: vs => if v.category = 2 then v :: Value.null :: xargs vs else v :: xargs vs
def xpad (n : Nat) (As : List Value) : List Value := xargs As ++ List.replicate (n - (xargs As).length) Value.null
theorem lv_args_mem {ad : Nat → Nat} : ∀ (As : List Value) (i0 j : Nat) (v : Value), (xargs As)[j]? = some v → v ≠ Value.null → (i0 + j, xv ad v) ∈ lv_args i0 (As.map (xv ad)) := by
  intro As
  induction As with
  | nil => intro i0 j v h; cases h
  | cons a As ih =>
    intro i0 j v h hv
    have e : lv_args i0 ((a :: As).map (xv ad)) = (i0, xv ad a) :: lv_args (if a.category = 2 then i0 + 2 else i0 + 1) (As.map (xv ad)) := by
      show (i0, xv ad a) :: lv_args (if (xv ad a).category = 2 then i0 + 2 else i0 + 1) (As.map (xv ad)) = _
      rw [xv_cat]
    rw [e]
    by_cases hc : a.category = 2
    · rw [if_pos hc]
      rw [show xargs (a :: As) = a :: Value.null :: xargs As by rw [xargs, if_pos hc]] at h
      match j, h with
      | 0, h => cases h; exact List.mem_cons_self
      | 1, h => cases h; exact absurd rfl hv
      | j + 2, h =>
        have := ih (i0 + 2) j v h hv
        rw [show i0 + (j + 2) = i0 + 2 + j by omega]
        exact List.mem_cons_of_mem _ this
    · rw [if_neg hc]
      rw [show xargs (a :: As) = a :: xargs As by rw [xargs, if_neg hc]] at h
      match j, h with
      | 0, h => cases h; exact List.mem_cons_self
      | j + 1, h =>
        have := ih (i0 + 1) j v h hv
        rw [show i0 + (j + 1) = i0 + 1 + j by omega]
        exact List.mem_cons_of_mem _ this
theorem xL_args {ad : Nat → Nat} {As : List Value} {n : Nat} {ls : Array Slot} (h : lv_has ls n (lv_args 0 (As.map (xv ad)))) : xL ad (xpad n As) ls n := by
  refine ⟨h.1, h.2.1, fun j v hj hv => ?_⟩
  unfold xpad at hj
  by_cases hl : j < (xargs As).length
  · rw [List.getElem?_append_left hl] at hj
    have := lv_args_mem (ad := ad) As 0 j v hj hv
    rw [Nat.zero_add] at this
    exact h.2.2 _ this
  · rw [List.getElem?_append_right (by omega)] at hj
    rw [List.getElem?_replicate] at hj
    split at hj
    · cases hj; exact absurd rfl hv
    · cases hj
theorem xlg_len {ad : Nat → Nat} : ∀ As : List Value, (lg_sl (As.map (xv ad))).length = (xargs As).length := by
  intro As
  induction As with
  | nil => rfl
  | cons a As ih =>
    show ((if (xv ad a).category = 2 then [Slot.val (xv ad a), Slot.second] else [Slot.val (xv ad a)]) ++ lg_sl (As.map (xv ad))).length = _
    rw [xv_cat, List.length_append, ih, xargs]
    by_cases hc : a.category = 2
    · rw [if_pos hc, if_pos hc]; simp; omega
    · rw [if_neg hc, if_neg hc]; simp; omega
theorem ExM_of {d : Nat} {Y : xY} {As : List Value} {M : xM} {B : xB} {Q : Option Value → xM → Prop} (hy : plainName Y.1.cls = true) (hlen : (xargs As).length ≤ Y.2.2.1) (hn : M.2.1 ≤ 1000000) (hQ : ∀ v M', Q v M' → M'.2.1 ≤ B.1 ∧ M'.2.2 ≤ B.2) (k : Ex (Y, d, B, none) 0 (xpad Y.2.2.1 As) [] M Q) : ExM d Y As M B Q := by
  intro l D dA ad h0 had
  refine Met.ofW (cc := Y.2.1) (maxL := Y.2.2.1) (ret := Y.2.2.2) hy rfl ?_
  intro p e s m args below meth c s₁ Bd hml hv
  obtain ⟨rfl, hat, hsz, hG⟩ := hv
  have hts := atoms_spec (ws := xws Y) Bd.pre
  have hown : s.vm.findClass Y.1.cls = some m.cls := findClass_of_methodNamed Bd.named
  have hin : Y.1.name = "<init>" → meth.name = "<init>" := fun h => by rw [← h]; exact (name_of_methodNamed Bd.named Bd.method).1
  have hl0 := lv_entry (As.map (xv ad)) (n := Y.2.2.1) (by rw [xlg_len]; exact hlen)
  rw [lg_entry_eq]
  generalize (lg_sl (As.map (xv ad)) ++ List.replicate (Y.2.2.1 - (lg_sl (As.map (xv ad))).length) Slot.unset).toArray = ls at hl0 ⊢
  have hr := Bd.returns
  have K := k p l e (headSpec (xws Y) { frames := d, cells := B.1 - M.2.1, slots := B.2 - M.2.2, locals := 64 * d }).room s m (As.map (xv ad)).toArray below meth c D dA ad h0 M.2.1 M.2.2 (MQ below (xQc D dA ad h0 Q) (As.map (xv ad)).toArray s (B.1 - M.2.1) (B.2 - M.2.2) (fun q => h0 ≤ q))
    ⟨Bd.exec, Bd.bytes, hml, hown, fun w hw => hts w (List.mem_cons_of_mem _ hw), hr, hin, Nat.le_refl _, Nat.le_refl _, by show B.1 ≤ B.1 - M.2.1 + M.2.1; omega, by show B.2 ≤ B.2 - M.2.2 + M.2.2; omega, had, hsz, hG, fun Z hz => by cases hz⟩
    (fun pc' ls' v M' H' locs' h1 h2 h3 => by
      obtain ⟨i1, i2, i3, i4, i5, i6, i7⟩ := h3
      have hq : ∀ t : State, t.heap = H' → s.WarmedH t.vm → xQc D dA ad h0 Q (As.map (xv ad)).toArray s (.returned (v.map (xv ad))) t := fun t ht hW => ⟨v, M', rfl, h2, by rw [ht]; exact i1, by rw [ht]; exact i2, i7, by rw [ht]; exact i3⟩
      obtain ⟨b1, b2⟩ := hQ v M' h2
      have hlocks := Bd.notSynchronized
      refine W.widen (k := B.1 - M.2.1) (n := B.2 - M.2.2) (by omega) (by omega) ?_
      cases v with
      | none => exact W.vret Bd.exec Bd.bytes (hr.trans h1.2) hq i4 h1.1
      | some v =>
        cases v with
        | int x => 
          obtain ⟨hd, ty, hty, hnr⟩ := h1
          exact W.zret Bd.exec Bd.bytes (hr.trans hty) hnr hq i4 hd
        | long x => exact W.lret Bd.exec Bd.bytes (hr.trans h1.2) hq i4 h1.1
        | _ => exact h1.elim)
    s.heap [] ls ⟨hat, hsz, fun _ _ => rfl, fun _ h => (by cases h), Nat.le_refl _, Nat.le_refl _, hn⟩ (xL_args hl0)
  refine W.cs (by omega) (by omega) K
