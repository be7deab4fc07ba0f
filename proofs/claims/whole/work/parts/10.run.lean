/-! ===== Ex: calls ===== -/
def xMd (y : MethodName) (n : Nat) : Prop := y.cls ≠ "java/lang/invoke/MethodHandle" ∧ y.cls ≠ "java/lang/invoke/VarHandle" ∧ (parseMethodDescriptor y.desc).map (fun d => d.parameters.length) = some n
def xMw (Y : xY) (n : Nat) : Prop := Cond.code Y.1 Y.2.1 Y.2.2.1 Y.2.2.2 ∈ xT ∧ Cond.initialized Y.1.cls ∈ xT ∧ xMd Y.1 n
theorem xgood {w : Cond} (h : w ∈ xT) : w ∈ xT ∧ ((w.onTables && w.keeps) = true ∨ ∃ ty, w = .arrayClass ty) := ⟨h, good_of_word (List.mem_filter.mp h).2⟩
theorem xws_good {Y : xY} {n : Nat} (h : xMw Y n) : GoodIn xT (xws Y) := fun w hw => (List.mem_cons.mp hw).elim (fun e => by rw [e]; exact xgood h.1) xgood
theorem xPc_blind {D : va_G} {dA : Nat → ClassId} {ad : Nat → Nat} {h0 : Nat} {M : xM} {As : List Value} : FrameBlind (xPc D dA ad h0 M As) := fun a U g mk h => ⟨h.1, h.2.1, h.2.2.1, xG_same (u := U) (U := U.calling g mk a) rfl h.2.2.2⟩
section XC
variable {E : xE} {pc : Nat} {L S : List Value} {M : xM} {Q : Option Value → xM → Prop}
theorem xrun {p : Program} {l : Launch} {e : Env} {R : Room} {s : State} {m : MethodId} {args : Array Value} {below : List Frame} {meth : Method} {c : Code} {H : Heap} {locs : List Loc} {cells slots mc ms : Nat} {Qf : State → Prop} {ls : Array Slot} {st0 rest : List Value} {a : Array Value} {D : va_G} {dA : Nat → ClassId} {ad : Nat → Nat} {h0 nb wb : Nat} {Q' : Option Value → xM → Prop} {M1 : xM}
    (I : xI D dA ad h0 nb wb s M1 H locs) (hr : va_Run p l e R s m args below meth c H locs cells slots mc ms (F0 m pc ls st0) rest (xQc D dA ad h0 Q' a) (fun q => h0 ≤ q)) (hn : ∀ v M', Q' v M' → nb ≤ M'.2.1 ∧ wb ≤ M'.2.2)
    (kk : ∀ (v : Option Value) (M' : xM) (H1 : Heap) (locs1 : List Loc), Q' v M' → xI D dA ad h0 nb wb s M' H1 locs1 → W p l e R s m args below meth c H1 locs1 (cells + mc) (slots + ms) Qf (F0 m (pc + 3) ls ((v.map (xv ad)).toList ++ rest))) : W p l e R s m args below meth c H locs cells slots Qf (F0 m pc ls st0) := by
  intro T hT X
  obtain ⟨v, st₀, t, T', L, h0', X', hL, e1, e2, ⟨v', M', hv, hq, hat, hz, hm, hk⟩, st⟩ := hr T hT X
  obtain rfl : v = v'.map (xv ad) := by cases hv; rfl
  obtain ⟨b1, b2⟩ := hn _ _ hq
  obtain ⟨t2, a1, c1⟩ := kk v' M' T'.heap (locs ++ L) hq ⟨fun i hi => by rw [e1]; exact hat i hi, by rw [e1]; exact hz, fun q h => by rw [e1, hk q h, h0']; exact I.2.2.1 q h, fun q hq => by
      rcases List.mem_append.mp hq with h | h
      · exact I.2.2.2.1 q h
      · exact hL q h, b1, b2, hm⟩ T' rfl X'
  exact ⟨t2, st t2 a1, c1⟩
theorem xpre {D : va_G} {dA : Nat → ClassId} {ad : Nat → Nat} {h0 nb wb : Nat} {s : State} {M : xM} {H : Heap} {locs : List Loc} {As : List Value} (hG : xG D dA ad h0 s s.heap) (I : xI D dA ad h0 nb wb s M H locs) : ∀ U : State, U.heap = H → s.WarmedH U.vm → xPc D dA ad h0 M As (As.map (xv ad)).toArray U :=
  fun U hU hW => ⟨rfl, fun i hi => by rw [hU]; exact I.1 i hi, by rw [hU]; exact I.2.1, xG_warm hW (fun a ha => by rw [hU]; exact I.2.2.1 a ha) hG⟩
theorem xstk {ad : Nat → Nat} {As rest : List Value} : ((As.reverse ++ rest).map (xv ad)) = (As.map (xv ad)).reverse ++ rest.map (xv ad) := by
  rw [List.map_append, List.map_reverse]
/-- how a method is linked here -/
def xlm (own : String) (index : Nat) (y : MethodName) : Prop := Cond.methodLink own index y ∈ xT ∨ ∃ host, Cond.methodLinkNest own index y host ∈ xN
def xBk (E : xE) (M : xM) (d : Nat) (Y : xY) (B : xB) (Q' : Option Value → xM → Prop) : Prop := d + 1 ≤ E.2.1 ∧ 8 + (Y.2.2.1 + 11) + 64 * d ≤ 64 * E.2.1 ∧ M.2.1 ≤ B.1 ∧ M.2.2 ≤ B.2 ∧ B.1 ≤ E.2.2.1.1 ∧ B.2 ≤ E.2.2.1.2 ∧ ∀ v M', Q' v M' → M'.2.1 = B.1 ∧ M'.2.2 = B.2
theorem x_callV {index ci n b d N : Nat} {Y : xY} {As fs : List Value} {T : u_T} {B : xB} {Q' : Option Value → xM → Prop} (hd : decode E.1.2.1 pc = .ok (.invokevirtual index, 3)) (hM : ExM d Y (.ref b :: As) M B Q') (hw : xMw Y n) (hlk : xlm E.1.1.cls index Y.1) (hin : Cond.instanceMethod Y.1 ∈ xT) (hse : Cond.selects Y.1.cls Y.1 Y.1 ∈ xT) (hn : As.length = n) (hrec : b < M.2.1 ∧ M.1 b = .inr (ci, fs) ∧ vwCl[ci]? = some (Y.1.cls, T, N)) (hS : S.length ≤ 4) (hB : xBk E M d Y B Q') (kk : ∀ v M', Q' v M' → Ex E (pc + 3) L (v.toList ++ S) M' Q) : Ex E pc L (As.reverse ++ .ref b :: S) M Q := by
  intro p l e R s m args below meth c D dA ad h0 nb wb Qf cX K H locs ls I hl
  obtain ⟨hx, hb, hml, hown, hts, hret, hini, hfr, hlo, hce, hsl, had, hh0, hG, hZ⟩ := id cX
  obtain ⟨b1, b2, b3, b4, b5, b6, b7⟩ := hB
  obtain ⟨i1, i2, i3, i4, i5, i6, i7⟩ := id I
  obtain ⟨r1, r2, r3⟩ := hrec
  have hP := I.1 b r1
  rw [r2] at hP
  obtain ⟨r, g1, cell, q1, q2, q3, q4⟩ := hP
  have hcell : ∃ cellB : Cell, H[ad b]? = some cellB ∧ cellB.vm.isStatics = false ∧ s.vm.findClass Y.1.cls = some cellB.cls := ⟨cell, q1, by rw [q3]; rfl, by rw [q2]; exact (hG.1.1 ci _ r3).2.1⟩
  have hpre : PreV s H Y.1.cls (ad b) (xPc D dA ad h0 M (.ref b :: As)) (As.map (xv ad)) := ⟨xPc_blind, hcell, xpre (As := .ref b :: As) hG I⟩
  have hMe := hM l D dA ad h0 had
  have hR : d + 1 ≤ R.frames ∧ 8 + (Y.2.2.1 + 11) + 64 * d ≤ R.locals := ⟨by omega, by omega⟩
  have hf : M.2.1 - nb + (B.1 - M.2.1) ≤ R.cells ∧ M.2.2 - wb + (B.2 - M.2.2) ≤ R.slots := ⟨by omega, by omega⟩
  have hcat : 2 * (F0 m pc ls ((As.map (xv ad)).reverse ++ .ref (ad b) :: S.map (xv ad))).monitorRoom + ((S.map (xv ad)).map fun v => v.category).sum ≤ 8 := by
    have := xcat_sum (ad := ad) hS
    show 2 * 0 + _ ≤ _
    omega
  refine W.eq (g2 := F0 m pc ls ((As.map (xv ad)).reverse ++ .ref (ad b) :: S.map (xv ad))) (by rw [xstk]; rfl) ?_
  have go : va_Run p l e R s m args below meth c H locs (M.2.1 - nb) (M.2.2 - wb) (B.1 - M.2.1) (B.2 - M.2.2) (F0 m pc ls ((As.map (xv ad)).reverse ++ .ref (ad b) :: S.map (xv ad))) (S.map (xv ad)) (xQc D dA ad h0 Q' (Value.ref (ad b) :: As.map (xv ad)).toArray) (fun q => h0 ≤ q) := by
    have ok : ∀ w ∈ xT, w.before args s = true := hts
    rcases hlk with hlk | ⟨host, hlk⟩
    · exact va_runV (S := ⟨hx, hb, hml, hown, hts⟩) hMe ⟨callB_of n hts (xws_good hw) rfl rfl rfl (hts _ hw.2.1) (hts _ hlk) hw.2.2 hR, hts _ hin, hts _ hse⟩ hpre rfl (by rw [List.length_map]; exact hn) hl.1 rfl hcat hd hf
    · exact va_runVN (S := ⟨hx, hb, hml, hown, hts⟩) hMe ⟨va_cnB n hts (xws_good hw) rfl rfl rfl (hG.2.1 _ hlk) (hts _ hw.2.1) hw.2.2 hR, hts _ hin, hts _ hse⟩ hpre rfl (by rw [List.length_map]; exact hn) hl.1 rfl hcat hd hf
  refine xrun (nb := nb) (wb := wb) (pc := pc) I go (fun v M' h => by obtain ⟨z1, z2⟩ := b7 v M' h; omega) (fun v M' H1 locs1 hq I1 => ?_)
  obtain ⟨z1, z2⟩ := b7 v M' hq
  have K1 := kk v M' hq p l e R s m args below meth c D dA ad h0 nb wb Qf cX K H1 locs1 ls I1 hl
  refine W.cs (by omega) (by omega) (W.eq ?_ K1)
  rw [List.map_append]
  cases v <;> rfl
theorem x_callS {index n d : Nat} {Y : xY} {As : List Value} {B : xB} {Q' : Option Value → xM → Prop} (hd : decode E.1.2.1 pc = .ok (.invokestatic index, 3)) (hM : ExM d Y As M B Q') (hw : xMw Y n) (hlk : xlm E.1.1.cls index Y.1) (hst : Cond.static Y.1 ∈ xT) (hn : As.length = n) (hS : S.length ≤ 4) (hB : xBk E M d Y B Q') (kk : ∀ v M', Q' v M' → Ex E (pc + 3) L (v.toList ++ S) M' Q) : Ex E pc L (As.reverse ++ S) M Q := by
  intro p l e R s m args below meth c D dA ad h0 nb wb Qf cX K H locs ls I hl
  obtain ⟨hx, hb, hml, hown, hts, hret, hini, hfr, hlo, hce, hsl, had, hh0, hG, hZ⟩ := id cX
  obtain ⟨b1, b2, b3, b4, b5, b6, b7⟩ := hB
  obtain ⟨i1, i2, i3, i4, i5, i6, i7⟩ := id I
  have hpre : PreS s H (xPc D dA ad h0 M As) (As.map (xv ad)) := ⟨xPc_blind, xpre hG I⟩
  have hMe := hM l D dA ad h0 had
  have hR : d + 1 ≤ R.frames ∧ 8 + (Y.2.2.1 + 11) + 64 * d ≤ R.locals := ⟨by omega, by omega⟩
  have hf : M.2.1 - nb + (B.1 - M.2.1) ≤ R.cells ∧ M.2.2 - wb + (B.2 - M.2.2) ≤ R.slots := ⟨by omega, by omega⟩
  have hcat : 2 * (F0 m pc ls ((As.map (xv ad)).reverse ++ S.map (xv ad))).monitorRoom + ((S.map (xv ad)).map fun v => v.category).sum ≤ 8 := by
    have := xcat_sum (ad := ad) hS
    show 2 * 0 + _ ≤ _
    omega
  refine W.eq (g2 := F0 m pc ls ((As.map (xv ad)).reverse ++ S.map (xv ad))) (by rw [xstk]) ?_
  have go : va_Run p l e R s m args below meth c H locs (M.2.1 - nb) (M.2.2 - wb) (B.1 - M.2.1) (B.2 - M.2.2) (F0 m pc ls ((As.map (xv ad)).reverse ++ S.map (xv ad))) (S.map (xv ad)) (xQc D dA ad h0 Q' (As.map (xv ad)).toArray) (fun q => h0 ≤ q) := by
    rcases hlk with hlk | ⟨host, hlk⟩
    · exact va_runS (S := ⟨hx, hb, hml, hown, hts⟩) hMe ⟨callB_of n hts (xws_good hw) rfl rfl rfl (hts _ hw.2.1) (hts _ hlk) hw.2.2 hR, hts _ hst⟩ hpre rfl (by rw [List.length_map]; exact hn) hl.1 rfl hcat hd hf
    · exact va_runSN (S := ⟨hx, hb, hml, hown, hts⟩) hMe ⟨va_cnB n hts (xws_good hw) rfl rfl rfl (hG.2.1 _ hlk) (hts _ hw.2.1) hw.2.2 hR, hts _ hst, trivial⟩ hpre rfl (by rw [List.length_map]; exact hn) hl.1 rfl hcat hd hf
  refine xrun (nb := nb) (wb := wb) (pc := pc) I go (fun v M' h => by obtain ⟨z1, z2⟩ := b7 v M' h; omega) (fun v M' H1 locs1 hq I1 => ?_)
  obtain ⟨z1, z2⟩ := b7 v M' hq
  have K1 := kk v M' hq p l e R s m args below meth c D dA ad h0 nb wb Qf cX K H1 locs1 ls I1 hl
  refine W.cs (by omega) (by omega) (W.eq ?_ K1)
  rw [List.map_append]
  cases v <;> rfl
theorem x_callI {index n b d : Nat} {y : MethodName} {cc : ByteArray} {mL : Nat} {As : List Value} {B : xB} {Q' : Option Value → xM → Prop} (hd : decode E.1.2.1 pc = .ok (.invokespecial index, 3)) (hM : ExM d (y, cc, mL, none) (.ref b :: As) M B Q') (hw : xMw (y, cc, mL, none) n) (hlk : xlm E.1.1.cls index y) (hin : Cond.instanceMethod y ∈ xT) (hi : y.name = "<init>") (hn : As.length = n) (hS : S.length ≤ 4) (hB : xBk E M d (y, cc, mL, none) B Q') (kk : ∀ v M', Q' v M' → Ex E (pc + 3) L (v.toList ++ S) M' Q) : Ex E pc L (As.reverse ++ .ref b :: S) M Q := by
  intro p l e R s m args below meth c D dA ad h0 nb wb Qf cX K H locs ls I hl
  obtain ⟨hx, hb, hml, hown, hts, hret, hini, hfr, hlo, hce, hsl, had, hh0, hG, hZ⟩ := id cX
  obtain ⟨b1, b2, b3, b4, b5, b6, b7⟩ := hB
  obtain ⟨i1, i2, i3, i4, i5, i6, i7⟩ := id I
  have hpre : PreS s H (xPc D dA ad h0 M (.ref b :: As)) (.ref (ad b) :: As.map (xv ad)) := ⟨xPc_blind, xpre (As := .ref b :: As) hG I⟩
  have hMe := hM l D dA ad h0 had
  have hR : d + 1 ≤ R.frames ∧ 8 + (mL + 11) + 64 * d ≤ R.locals := ⟨by omega, by dsimp only at b2; omega⟩
  have hf : M.2.1 - nb + (B.1 - M.2.1) ≤ R.cells ∧ M.2.2 - wb + (B.2 - M.2.2) ≤ R.slots := ⟨by omega, by omega⟩
  have hcat : 2 * (F0 m pc ls ((As.map (xv ad)).reverse ++ .ref (ad b) :: S.map (xv ad))).monitorRoom + ((S.map (xv ad)).map fun v => v.category).sum ≤ 8 := by
    have := xcat_sum (ad := ad) hS
    show 2 * 0 + _ ≤ _
    omega
  refine W.eq (g2 := F0 m pc ls ((As.map (xv ad)).reverse ++ .ref (ad b) :: S.map (xv ad))) (by rw [xstk]; rfl) ?_
  have go : va_Run p l e R s m args below meth c H locs (M.2.1 - nb) (M.2.2 - wb) (B.1 - M.2.1) (B.2 - M.2.2) (F0 m pc ls ((As.map (xv ad)).reverse ++ .ref (ad b) :: S.map (xv ad))) (S.map (xv ad)) (xQc D dA ad h0 Q' (Value.ref (ad b) :: As.map (xv ad)).toArray) (fun q => h0 ≤ q) := by
    rcases hlk with hlk | ⟨host, hlk⟩
    · exact va_runI (S := ⟨hx, hb, hml, hown, hts⟩) hMe ⟨callB_of n hts (xws_good hw) rfl rfl rfl (hts _ hw.2.1) (hts _ hlk) hw.2.2 hR, hi, hts _ hin⟩ hpre rfl (by rw [List.length_map]; exact hn) hl.1 rfl hcat hd hf
    · exact va_runIN (S := ⟨hx, hb, hml, hown, hts⟩) hMe ⟨va_cnB n hts (xws_good hw) rfl rfl rfl (hG.2.1 _ hlk) (hts _ hw.2.1) hw.2.2 hR, hi, hts _ hin⟩ hpre rfl (by rw [List.length_map]; exact hn) hl.1 rfl hcat hd hf
  refine xrun (nb := nb) (wb := wb) (pc := pc) I go (fun v M' h => by obtain ⟨z1, z2⟩ := b7 v M' h; omega) (fun v M' H1 locs1 hq I1 => ?_)
  obtain ⟨z1, z2⟩ := b7 v M' hq
  have K1 := kk v M' hq p l e R s m args below meth c D dA ad h0 nb wb Qf cX K H1 locs1 ls I1 hl
  refine W.cs (by omega) (by omega) (W.eq ?_ K1)
  rw [List.map_append]
  cases v <;> rfl
end XC
