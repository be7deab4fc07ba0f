theorem xG_of {s : State} {b : Nat} (hts : ∀ w ∈ lw_tbl, w.before #[Value.ref b] s = true) (hgv : (Jvm.Cond.and given_1 narrow_1).before #[Value.ref b] s = true) : ∃ (D : va_G) (dA : Nat → ClassId) (ad : Nat → Nat), (∀ i, i < 1000000 → ad i = s.heap.size + i) ∧ ad 1000000 = b ∧ xG D dA ad s.heap.size s s.heap := by
  have htx : ∀ w ∈ xT, w.before #[Value.ref b] s = true := fun w hw => hts w (List.mem_filter.mp hw).1
  have htt : ∀ w ∈ tables_1, w.before #[Value.ref b] s = true := fun w hw => hts w (List.mem_append_right _ hw)
  have hf : ∀ w ∈ xFL, w.before #[Value.ref b] s = true := flat_of_before _ hgv
  have hA : ∀ a : Nat, a < s.heap.size → ¬ (fun q : Nat => s.heap.size ≤ q) a := fun a h => Nat.not_le.mpr h
  obtain ⟨c0, i0, hK0⟩ := u_known (C := RX0) (T := TX0) (N := 3) (n := 3) htx inX0 (htx _ itX0)
  obtain ⟨c1, i1, hK1⟩ := u_known (C := RX1) (T := TX1) (N := 4) (n := 4) htx inX1 (htx _ itX1)
  obtain ⟨c2, i2, hK2⟩ := u_known (C := RX2) (T := TX2) (N := 3) (n := 3) htx inX2 (htx _ itX2)
  obtain ⟨c3, i3, hK3⟩ := u_known (C := RX3) (T := TX3) (N := 8) (n := 8) htx inX3 (htx _ itX3)
  obtain ⟨c4, i4, hK4⟩ := u_known (C := RX4) (T := TX4) (N := 5) (n := 5) htx inX4 (htx _ itX4)
  obtain ⟨c5, i5, hK5⟩ := u_known (C := RX5) (T := TX5) (N := 2) (n := 2) htx inX5 (htx _ itX5)
  obtain ⟨c6, i6, hK6⟩ := u_known (C := RX6) (T := TX6) (N := 3) (n := 3) htx inX6 (htx _ itX6)
  obtain ⟨c7, i7, hK7⟩ := u_known (C := RX7) (T := TX7) (N := 5) (n := 5) htx inX7 (htx _ itX7)
  obtain ⟨c8, i8, hK8⟩ := u_known (C := RX8) (T := TX8) (N := 10) (n := 10) htx inX8 (htx _ itX8)
  obtain ⟨c9, i9, hK9⟩ := u_known (C := RX9) (T := TX9) (N := 20) (n := 20) htx inX9 (htx _ itX9)
  obtain ⟨dC, dI, hKc⟩ : ∃ (dC : Nat → ClassId) (dI : Nat → Nat → Nat), ∀ (k : Nat) (q : vw_C), vwCl[k]? = some q → u_Kn s q.1 q.2.1 q.2.2 (dC k) (dI k) := by
    refine ⟨fun k => match k with | 0 => c0 | 1 => c1 | 2 => c2 | 3 => c3 | 4 => c4 | 5 => c5 | 6 => c6 | 7 => c7 | 8 => c8 | _ => c9, fun k => match k with | 0 => i0 | 1 => i1 | 2 => i2 | 3 => i3 | 4 => i4 | 5 => i5 | 6 => i6 | 7 => i7 | 8 => i8 | _ => i9, fun k q hq => ?_⟩
    match k, hq with
    | 0, hq => cases hq; exact hK0
    | 1, hq => cases hq; exact hK1
    | 2, hq => cases hq; exact hK2
    | 3, hq => cases hq; exact hK3
    | 4, hq => cases hq; exact hK4
    | 5, hq => cases hq; exact hK5
    | 6, hq => cases hq; exact hK6
    | 7, hq => cases hq; exact hK7
    | 8, hq => cases hq; exact hK8
    | 9, hq => cases hq; exact hK9
    | k + 10, hq => exact absurd (List.getElem?_eq_some_iff.mp hq).1 (by show ¬ k + 10 < 10; omega)
  obtain ⟨a0, k0, p0, f0, g0, e0⟩ := Cond.arrayClass_spec (htx _ ac_int)
  obtain ⟨a1, k1, p1, f1, g1, e1⟩ := Cond.arrayClass_spec (htx _ ac_char)
  obtain ⟨a2, k2, p2, f2, g2, e2⟩ := Cond.arrayClass_spec (htx _ ac_boolean)
  obtain ⟨p3, a3, k3, m3, n3, g3, e3, f3⟩ := Cond.arrayOver_spec (htt _ tb_ao)
  obtain ⟨adK, adV, hS, hE⟩ := vk_Sof (N := 8) (tm := xtm) (len := xlen) (byt := xbyt) (A := fun q : Nat => s.heap.size ≤ q) (args := #[Value.ref b]) (s := s) (by decide) (fun i hi => hf _ (fl_ex i hi)) (fun i hi => hf _ (fl_co i hi)) (fun i hi => hf _ (fl_ar i hi)) (fun i hi => hf _ (fl_le i hi)) (fun i hi j hj => hf _ (fl_el i hi j hj)) (fun i j hi hj hne => (fl_ne i hi j hj hne).imp (hf _) (hf _)) hA
  obtain ⟨v, z, hv, hvz⟩ := isRef_v (hf _ fl_fm)
  have hcs := va_Zof (htt _ tb_cs) (htt _ tb_is) (va_eqi (hf _ fl_cs)) hA
  have hfm := va_Zof (htt _ tb_fm) (htt _ tb_ip) hv hA
  obtain ⟨ad, q0, q1, q2, q3, q4⟩ : ∃ ad : Nat → Nat, (∀ i, i < 1000000 → ad i = s.heap.size + i) ∧ ad 1000000 = b ∧ (∀ i, i < 8 → ad (1000001 + i) = adK i) ∧ (∀ i, i < 8 → ad (1000101 + i) = adV i) ∧ ad 1000200 = z := by
    refine ⟨fun i => if i < 1000000 then s.heap.size + i else if i = 1000000 then b else if i < 1000100 then adK (i - 1000001) else if i < 1000200 then adV (i - 1000101) else z, fun i hi => if_pos hi, ?_, fun i hi => ?_, fun i hi => ?_, ?_⟩
    · show (if 1000000 < 1000000 then _ else _) = _
      rw [if_neg (by decide), if_pos rfl]
    · show (if 1000001 + i < 1000000 then _ else _) = _
      rw [if_neg (by omega), if_neg (by omega), if_pos (by omega), show 1000001 + i - 1000001 = i by omega]
    · show (if 1000101 + i < 1000000 then _ else _) = _
      rw [if_neg (by omega), if_neg (by omega), if_neg (by omega), if_pos (by omega), show 1000101 + i - 1000101 = i by omega]
    · show (if 1000200 < 1000000 then _ else _) = _
      rw [if_neg (by decide), if_neg (by decide), if_neg (by decide), if_neg (by decide)]
  obtain ⟨dA, d0, d1, d2, d3⟩ : ∃ dA : Nat → ClassId, dA 0 = a0 ∧ dA 1 = a1 ∧ dA 2 = a2 ∧ dA 3 = a3 := ⟨fun k => match k with | 0 => a0 | 1 => a1 | 2 => a2 | _ => a3, rfl, rfl, rfl, rfl⟩
  refine ⟨(dC, dI), dA, ad, q0, q1, ⟨hKc, fun k q hk => ?_⟩, fun w hw => va_Nw.of (xN_tab hw) (htt w (List.mem_filter.mp hw).1), ?_, fun i hi => ?_, hcs, ⟨v, hfm, ?_⟩, va_AO.of (htt _ tb_ao)⟩
  · match k, hk with
    | 0, hk => cases hk; rw [d0]; exact ⟨fun n z => ⟨fun k h => (by cases h), k0, g0, p0, e0⟩, f0⟩
    | 1, hk => cases hk; rw [d1]; exact ⟨fun n z => ⟨fun k h => (by cases h), k1, g1, p1, e1⟩, f1⟩
    | 2, hk => cases hk; rw [d2]; exact ⟨fun n z => ⟨fun k h => (by cases h), k2, g2, p2, e2⟩, f2⟩
    | 3, hk => cases hk; rw [d3]; exact ⟨fun n z => ⟨fun k h => (by cases h), k3, g3, p3, e3⟩, ⟨k3, p3, g3, e3, m3, f3⟩⟩
    | k + 4, hk => exact absurd (List.getElem?_eq_some_iff.mp hk).1 (by show ¬ k + 4 < 4; omega)
  · refine ⟨fun i hi => ?_, fun i j hi hj h => hS.2 i j hi hj (by rw [← q2 i hi, ← q2 j hj]; exact h)⟩
    show va_O _ (ad (1000001 + i)) _ _ _ ∧ va_OF _ _ _ _ (ad (1000001 + i)) _ _ _ ∧ va_OF _ _ _ (.ref (ad (1000101 + i))) (ad (1000001 + i)) _ _ _ ∧ va_T _ (ad (1000101 + i)) _ _ _ _ _
    rw [q2 i hi, q3 i hi]
    exact hS.1 i hi
  · rw [q2 i hi]
    exact vk_R.of (htt _ (tb_sr i hi)) (hE i hi)
  · rw [q4]
    exact hvz
abbrev xM0 : xM := (hL [], 0, 0)
/-- the law, from the entry to the end -/
theorem whole_start {p : Program} {e : Env} {s : State} {m : MethodId} {below : List Frame} {meth : Method} {c : Code} (l : Launch) (hflags : l.flags = flags0) {b L : Nat} {xs : Nat → Int32} (hL : L ≤ 2048) (C0 : lw_At p s m meth c b L xs) : W p l e room_1 s m #[Value.ref b] below meth c s.heap [] 0 0 (lw_Z below #[Value.ref b] s) (entryFrame m ([Value.ref b] : List Value).toArray 4) := by
  obtain ⟨hx, hb, hr, hml, hown, hts, hX, hbl, hlocks, hgv⟩ := id C0
  obtain ⟨D, dA, ad, q0, q1, hG⟩ := xG_of hts hgv
  have hl := lv_entry ([.ref b]) (n := 4) (Nat.le_of_ble_eq_true rfl)
  rw [lg_entry_eq]
  generalize (lg_sl ([.ref b]) ++ List.replicate (4 - (lg_sl ([.ref b])).length) Slot.unset).toArray = ls at hl ⊢
  have hl : lv_has ls 4 (lv_args 0 (([.ref 1000000] : List Value).map (xv ad))) := by
    show lv_has ls 4 [(0, .ref (ad 1000000))]
    rw [q1]
    exact hl
  have cX : xC (xEL L xs) p l e room_1 s m #[Value.ref b] below meth c D dA ad s.heap.size 0 0 :=
    ⟨hx, hb, hml, hown, fun w hw => hts w (List.mem_filter.mp hw).1, hr, fun h => absurd h (show ¬ yL_law.name = "<init>" by decide), Nat.le_of_ble_eq_true rfl, Nat.le_of_ble_eq_true rfl, Nat.le_of_ble_eq_true rfl, Nat.le_of_ble_eq_true rfl, q0, rfl, hG, fun Z hZ => by cases hZ; rw [q1]; exact ⟨hX, hbl⟩⟩
  have I : xI D dA ad s.heap.size 0 0 s xM0 s.heap [] := ⟨fun i hi => absurd hi (Nat.not_lt_zero i), rfl, fun q _ => rfl, fun l hl => absurd hl List.not_mem_nil, Nat.le_refl _, Nat.le_refl _, Nat.zero_le _⟩
  refine law_all hL p l e room_1 s m #[Value.ref b] below meth c D dA ad s.heap.size 0 0 (lw_Z below #[Value.ref b] s) cX (fun pc' ls' v M' H' locs' hR hq I' => ?_) s.heap [] ls I (xL_args hl)
  obtain ⟨rfl, hM⟩ := hq
  rw [hM]
  refine W.widen (k := 600000) (n := 7302249) (Nat.le_of_ble_eq_true rfl) (Nat.le_of_ble_eq_true rfl) ?_
  refine va_forget (fun q hq => I'.2.2.2.1 q hq) ?_
  exact lw_ret hx hb hr hlocks hR.1
