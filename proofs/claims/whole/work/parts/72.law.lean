/-! ===== the law's loop ===== -/
abbrev xEL (L : Nat) (xs : Nat → Int32) : xE := (YL_law, 13, xB0, some (L, xs))
def QL : Option Value → xM → Prop := fun v M' => v = some (.int 1) ∧ M'.2 = (92, 1178)
theorem l_sld {E : xE} {pc k : Nat} {Lc S : List Value} {M : xM} {Q : Option Value → xM → Prop} {Z : Nat × (Nat → Int32)} {i : Int32} (hd : decode E.1.2.1 pc = .ok (.iaload, 1)) (hz : E.2.2.2 = some Z) (hi : i = nI k) (hk : k < Z.1) (hk2 : k < 100000) (kk : Ex E (pc + 1) Lc (.int (Z.2 k) :: S) M Q) : Ex E pc Lc (.int i :: .ref 1000000 :: S) M Q := by
  subst hi
  have e : (nI k).toNatClampNeg = k := by
    show (nI k).toInt.toNat = k
    rw [nI_toInt (by omega)]
    exact Int.toNat_natCast k
  refine x_sld hd hz ?_ (by rw [e]; exact kk)
  unfold vp_in
  rw [e]
  exact fun q => q.elim (nI_pos (by omega)) (fun z => by omega)
theorem an_31 (x : Int32) : ∃ k, k < 32 ∧ x &&& 31 = nI k := by
  have h : (x &&& 31).toBitVec.toNat ≤ 31 := by
    rw [Int32.toBitVec_and, BitVec.toNat_and]
    exact Nat.and_le_right
  refine ⟨(x &&& 31).toBitVec.toNat, by omega, ?_⟩
  apply Int32.toBitVec_inj.mp
  apply BitVec.eq_of_toNat_eq
  show _ = (BitVec.ofNat 32 _).toNat
  rw [BitVec.toNat_ofNat]
  omega
theorem lt_4 {L i : Nat} (hL : L ≤ 2048) (hi : i ≤ 4096) : nI L - nI 4 < nI i ↔ ¬ i + 4 ≤ L := by
  have e : (nI L - nI 4).toInt = (L : Int) - 4 := by
    by_cases h : 4 ≤ L
    · rw [nI_sub h, nI_toInt (by omega)]; omega
    · have : ∀ L, L < 4 → (nI L - nI 4).toInt = (L : Int) - 4 := by decide
      exact this L (by omega)
  rw [Int32.lt_iff_toInt_lt, e, nI_toInt (by omega)]
  omega

set_option maxRecDepth 100000 in
theorem law_write {L i n : Nat} {xs : Nat → Int32} {σ : Sg} (hL : L ≤ 2048) (hi : i + 4 ≤ L) (hI : Inv n σ) (kk : ∀ n' σ', Inv n' σ' → Ex (xEL L xs) 672 [.ref 1000000, .ref 0, .ref 81, .int (nI i)] [] (xMs σ') QL) : Ex (xEL L xs) 136 [.ref 1000000, .ref 0, .ref 81, .int (nI i)] [] (xMs σ) QL := by
  obtain ⟨P, cP, hP⟩ := p_write hI (xs (i + 1))
  refine x_aload_n dL_law_136 rfl ?_
  refine x_aload_n dL_law_137 rfl ?_
  refine x_iload_n dL_law_138 rfl ?_
  refine x_iconst (v := 1) dL_law_139 (by decide) ?_
  refine x_iadd dL_law_140 ?_
  refine l_sld (k := i + 1) dL_law_141 rfl (nI_add i 1) (by omega) (by omega) ?_
  refine s_callV dL_law_142 (cP) rfl w_X8_write lmL_13 im_X8_write se_X8_write rfl (rfl) rfl (Nat.le_of_ble_eq_true rfl) rfl (⟨Nat.le_of_ble_eq_true rfl, Nat.le_of_ble_eq_true rfl⟩) (fun v_142 σ_142 h_142 => ?_)
  obtain ⟨r, rfl, P2, cP2, hP2⟩ := hP _ _ h_142
  refine x_aload_n dL_law_145 rfl ?_
  refine x_aload_n dL_law_146 rfl ?_
  refine x_iload_n dL_law_147 rfl ?_
  refine x_iconst (v := 1) dL_law_148 (by decide) ?_
  refine x_iadd dL_law_149 ?_
  refine l_sld (k := i + 1) dL_law_150 rfl (nI_add i 1) (by omega) (by omega) ?_
  refine s_callV dL_law_151 (cP2) rfl w_X9_write lmL_17 im_X9_write se_X9_write rfl (rfl) rfl (Nat.le_of_ble_eq_true rfl) rfl (⟨Nat.le_of_ble_eq_true rfl, Nat.le_of_ble_eq_true rfl⟩) (fun v_151 σ_151 h_151 => ?_)
  obtain ⟨rfl, n2, hI2⟩ := hP2 _ _ h_151
  refine x_icmp_eq (tgt := 672) dL_law_154 (by decide) (fun c_154 => ?_) (fun c_154 => (absurd rfl c_154))
  exact kk n2 _ hI2
set_option maxRecDepth 100000 in
theorem law_erase {L i n : Nat} {xs : Nat → Int32} {σ : Sg} (hL : L ≤ 2048) (hi : i + 4 ≤ L) (hI : Inv n σ) (kk : ∀ n' σ', Inv n' σ' → Ex (xEL L xs) 672 [.ref 1000000, .ref 0, .ref 81, .int (nI i)] [] (xMs σ') QL) : Ex (xEL L xs) 159 [.ref 1000000, .ref 0, .ref 81, .int (nI i)] [] (xMs σ) QL := by
  obtain ⟨P, cP, hP⟩ := p_erase hI 
  refine x_aload_n dL_law_159 rfl ?_
  refine s_callV dL_law_160 (cP) rfl w_X8_erase lmL_18 im_X8_erase se_X8_erase rfl (rfl) rfl (Nat.le_of_ble_eq_true rfl) rfl (⟨Nat.le_of_ble_eq_true rfl, Nat.le_of_ble_eq_true rfl⟩) (fun v_160 σ_160 h_160 => ?_)
  obtain ⟨r, rfl, P2, cP2, hP2⟩ := hP _ _ h_160
  refine x_aload_n dL_law_163 rfl ?_
  refine s_callV dL_law_164 (cP2) rfl w_X9_erase lmL_22 im_X9_erase se_X9_erase rfl (rfl) rfl (Nat.le_of_ble_eq_true rfl) rfl (⟨Nat.le_of_ble_eq_true rfl, Nat.le_of_ble_eq_true rfl⟩) (fun v_164 σ_164 h_164 => ?_)
  obtain ⟨rfl, n2, hI2⟩ := hP2 _ _ h_164
  refine x_icmp_eq (tgt := 672) dL_law_167 (by decide) (fun c_167 => ?_) (fun c_167 => (absurd rfl c_167))
  exact kk n2 _ hI2
set_option maxRecDepth 100000 in
theorem law_fault {L i n : Nat} {xs : Nat → Int32} {σ : Sg} (hL : L ≤ 2048) (hi : i + 4 ≤ L) (hI : Inv n σ) (kk : ∀ n' σ', Inv n' σ' → Ex (xEL L xs) 672 [.ref 1000000, .ref 0, .ref 81, .int (nI i)] [] (xMs σ') QL) : Ex (xEL L xs) 172 [.ref 1000000, .ref 0, .ref 81, .int (nI i)] [] (xMs σ) QL := by
  obtain ⟨P, cP, hP⟩ := p_fault hI 
  refine x_aload_n dL_law_172 rfl ?_
  refine s_callV dL_law_173 (cP) rfl w_X8_fault lmL_23 im_X8_fault se_X8_fault rfl (rfl) rfl (Nat.le_of_ble_eq_true rfl) rfl (⟨Nat.le_of_ble_eq_true rfl, Nat.le_of_ble_eq_true rfl⟩) (fun v_173 σ_173 h_173 => ?_)
  obtain ⟨r, rfl, P2, cP2, hP2⟩ := hP _ _ h_173
  refine x_aload_n dL_law_176 rfl ?_
  refine s_callV dL_law_177 (cP2) rfl w_X9_fault lmL_26 im_X9_fault se_X9_fault rfl (rfl) rfl (Nat.le_of_ble_eq_true rfl) rfl (⟨Nat.le_of_ble_eq_true rfl, Nat.le_of_ble_eq_true rfl⟩) (fun v_177 σ_177 h_177 => ?_)
  obtain ⟨rfl, n2, hI2⟩ := hP2 _ _ h_177
  refine x_icmp_eq (tgt := 672) dL_law_180 (by decide) (fun c_180 => ?_) (fun c_180 => (absurd rfl c_180))
  exact kk n2 _ hI2
set_option maxRecDepth 100000 in
theorem law_town {L i n : Nat} {xs : Nat → Int32} {σ : Sg} (hL : L ≤ 2048) (hi : i + 4 ≤ L) (hI : Inv n σ) (kk : ∀ n' σ', Inv n' σ' → Ex (xEL L xs) 672 [.ref 1000000, .ref 0, .ref 81, .int (nI i)] [] (xMs σ') QL) : Ex (xEL L xs) 185 [.ref 1000000, .ref 0, .ref 81, .int (nI i)] [] (xMs σ) QL := by
  obtain ⟨P, cP, hP⟩ := p_town hI 
  refine x_aload_n dL_law_185 rfl ?_
  refine s_callV dL_law_186 (cP) rfl w_X8_town lmL_27 im_X8_town se_X8_town rfl (rfl) rfl (Nat.le_of_ble_eq_true rfl) rfl (⟨Nat.le_of_ble_eq_true rfl, Nat.le_of_ble_eq_true rfl⟩) (fun v_186 σ_186 h_186 => ?_)
  obtain ⟨r, rfl, P2, cP2, hP2⟩ := hP _ _ h_186
  refine x_aload_n dL_law_189 rfl ?_
  refine s_callV dL_law_190 (cP2) rfl w_X9_town lmL_30 im_X9_town se_X9_town rfl (rfl) rfl (Nat.le_of_ble_eq_true rfl) rfl (⟨Nat.le_of_ble_eq_true rfl, Nat.le_of_ble_eq_true rfl⟩) (fun v_190 σ_190 h_190 => ?_)
  obtain ⟨rfl, n2, hI2⟩ := hP2 _ _ h_190
  refine x_icmp_eq (tgt := 672) dL_law_193 (by decide) (fun c_193 => ?_) (fun c_193 => (absurd rfl c_193))
  exact kk n2 _ hI2
set_option maxRecDepth 100000 in
theorem law_street {L i n : Nat} {xs : Nat → Int32} {σ : Sg} (hL : L ≤ 2048) (hi : i + 4 ≤ L) (hI : Inv n σ) (kk : ∀ n' σ', Inv n' σ' → Ex (xEL L xs) 672 [.ref 1000000, .ref 0, .ref 81, .int (nI i)] [] (xMs σ') QL) : Ex (xEL L xs) 198 [.ref 1000000, .ref 0, .ref 81, .int (nI i)] [] (xMs σ) QL := by
  obtain ⟨P, cP, hP⟩ := p_street hI (xs (i + 1)) (xs (i + 2))
  refine x_aload_n dL_law_198 rfl ?_
  refine x_aload_n dL_law_199 rfl ?_
  refine x_iload_n dL_law_200 rfl ?_
  refine x_iconst (v := 1) dL_law_201 (by decide) ?_
  refine x_iadd dL_law_202 ?_
  refine l_sld (k := i + 1) dL_law_203 rfl (nI_add i 1) (by omega) (by omega) ?_
  refine x_aload_n dL_law_204 rfl ?_
  refine x_iload_n dL_law_205 rfl ?_
  refine x_iconst (v := 2) dL_law_206 (by decide) ?_
  refine x_iadd dL_law_207 ?_
  refine l_sld (k := i + 2) dL_law_208 rfl (nI_add i 2) (by omega) (by omega) ?_
  refine s_callV dL_law_209 (cP) rfl w_X8_street lmL_31 im_X8_street se_X8_street rfl (rfl) rfl (Nat.le_of_ble_eq_true rfl) rfl (⟨Nat.le_of_ble_eq_true rfl, Nat.le_of_ble_eq_true rfl⟩) (fun v_209 σ_209 h_209 => ?_)
  obtain ⟨r, rfl, P2, cP2, hP2⟩ := hP _ _ h_209
  refine x_aload_n dL_law_212 rfl ?_
  refine x_aload_n dL_law_213 rfl ?_
  refine x_iload_n dL_law_214 rfl ?_
  refine x_iconst (v := 1) dL_law_215 (by decide) ?_
  refine x_iadd dL_law_216 ?_
  refine l_sld (k := i + 1) dL_law_217 rfl (nI_add i 1) (by omega) (by omega) ?_
  refine x_aload_n dL_law_218 rfl ?_
  refine x_iload_n dL_law_219 rfl ?_
  refine x_iconst (v := 2) dL_law_220 (by decide) ?_
  refine x_iadd dL_law_221 ?_
  refine l_sld (k := i + 2) dL_law_222 rfl (nI_add i 2) (by omega) (by omega) ?_
  refine s_callV dL_law_223 (cP2) rfl w_X9_street lmL_35 im_X9_street se_X9_street rfl (rfl) rfl (Nat.le_of_ble_eq_true rfl) rfl (⟨Nat.le_of_ble_eq_true rfl, Nat.le_of_ble_eq_true rfl⟩) (fun v_223 σ_223 h_223 => ?_)
  obtain ⟨rfl, n2, hI2⟩ := hP2 _ _ h_223
  refine x_icmp_eq (tgt := 672) dL_law_226 (by decide) (fun c_226 => ?_) (fun c_226 => (absurd rfl c_226))
  exact kk n2 _ hI2
set_option maxRecDepth 100000 in
theorem law_as {L i n : Nat} {xs : Nat → Int32} {σ : Sg} (hL : L ≤ 2048) (hi : i + 4 ≤ L) (hI : Inv n σ) (kk : ∀ n' σ', Inv n' σ' → Ex (xEL L xs) 672 [.ref 1000000, .ref 0, .ref 81, .int (nI i)] [] (xMs σ') QL) : Ex (xEL L xs) 231 [.ref 1000000, .ref 0, .ref 81, .int (nI i)] [] (xMs σ) QL := by
  obtain ⟨P, cP, hP⟩ := p_as hI (xs (i + 1)) (xs (i + 2))
  refine x_aload_n dL_law_231 rfl ?_
  refine x_aload_n dL_law_232 rfl ?_
  refine x_iload_n dL_law_233 rfl ?_
  refine x_iconst (v := 1) dL_law_234 (by decide) ?_
  refine x_iadd dL_law_235 ?_
  refine l_sld (k := i + 1) dL_law_236 rfl (nI_add i 1) (by omega) (by omega) ?_
  refine x_aload_n dL_law_237 rfl ?_
  refine x_iload_n dL_law_238 rfl ?_
  refine x_iconst (v := 2) dL_law_239 (by decide) ?_
  refine x_iadd dL_law_240 ?_
  refine l_sld (k := i + 2) dL_law_241 rfl (nI_add i 2) (by omega) (by omega) ?_
  refine s_callV dL_law_242 (cP) rfl w_X8_as lmL_36 im_X8_as se_X8_as rfl (rfl) rfl (Nat.le_of_ble_eq_true rfl) rfl (⟨Nat.le_of_ble_eq_true rfl, Nat.le_of_ble_eq_true rfl⟩) (fun v_242 σ_242 h_242 => ?_)
  obtain ⟨r, rfl, P2, cP2, hP2⟩ := hP _ _ h_242
  refine x_aload_n dL_law_245 rfl ?_
  refine x_aload_n dL_law_246 rfl ?_
  refine x_iload_n dL_law_247 rfl ?_
  refine x_iconst (v := 1) dL_law_248 (by decide) ?_
  refine x_iadd dL_law_249 ?_
  refine l_sld (k := i + 1) dL_law_250 rfl (nI_add i 1) (by omega) (by omega) ?_
  refine x_aload_n dL_law_251 rfl ?_
  refine x_iload_n dL_law_252 rfl ?_
  refine x_iconst (v := 2) dL_law_253 (by decide) ?_
  refine x_iadd dL_law_254 ?_
  refine l_sld (k := i + 2) dL_law_255 rfl (nI_add i 2) (by omega) (by omega) ?_
  refine s_callV dL_law_256 (cP2) rfl w_X9_as lmL_39 im_X9_as se_X9_as rfl (rfl) rfl (Nat.le_of_ble_eq_true rfl) rfl (⟨Nat.le_of_ble_eq_true rfl, Nat.le_of_ble_eq_true rfl⟩) (fun v_256 σ_256 h_256 => ?_)
  obtain ⟨rfl, n2, hI2⟩ := hP2 _ _ h_256
  refine x_icmp_eq (tgt := 672) dL_law_259 (by decide) (fun c_259 => ?_) (fun c_259 => (absurd rfl c_259))
  exact kk n2 _ hI2
set_option maxRecDepth 100000 in
theorem law_day {L i n : Nat} {xs : Nat → Int32} {σ : Sg} (hL : L ≤ 2048) (hi : i + 4 ≤ L) (hI : Inv n σ) (kk : ∀ n' σ', Inv n' σ' → Ex (xEL L xs) 672 [.ref 1000000, .ref 0, .ref 81, .int (nI i)] [] (xMs σ') QL) : Ex (xEL L xs) 264 [.ref 1000000, .ref 0, .ref 81, .int (nI i)] [] (xMs σ) QL := by
  obtain ⟨P, cP, hP⟩ := p_day hI 
  refine x_aload_n dL_law_264 rfl ?_
  refine s_callV dL_law_265 (cP) rfl w_X8_day lmL_40 im_X8_day se_X8_day rfl (rfl) rfl (Nat.le_of_ble_eq_true rfl) rfl (⟨Nat.le_of_ble_eq_true rfl, Nat.le_of_ble_eq_true rfl⟩) (fun v_265 σ_265 h_265 => ?_)
  obtain ⟨r, rfl, P2, cP2, hP2⟩ := hP _ _ h_265
  refine x_aload_n dL_law_268 rfl ?_
  refine s_callV dL_law_269 (cP2) rfl w_X9_day lmL_43 im_X9_day se_X9_day rfl (rfl) rfl (Nat.le_of_ble_eq_true rfl) rfl (⟨Nat.le_of_ble_eq_true rfl, Nat.le_of_ble_eq_true rfl⟩) (fun v_269 σ_269 h_269 => ?_)
  obtain ⟨rfl, n2, hI2⟩ := hP2 _ _ h_269
  refine x_icmp_eq (tgt := 672) dL_law_272 (by decide) (fun c_272 => ?_) (fun c_272 => (absurd rfl c_272))
  exact kk n2 _ hI2
set_option maxRecDepth 100000 in
theorem law_hose {L i n : Nat} {xs : Nat → Int32} {σ : Sg} (hL : L ≤ 2048) (hi : i + 4 ≤ L) (hI : Inv n σ) (kk : ∀ n' σ', Inv n' σ' → Ex (xEL L xs) 672 [.ref 1000000, .ref 0, .ref 81, .int (nI i)] [] (xMs σ') QL) : Ex (xEL L xs) 277 [.ref 1000000, .ref 0, .ref 81, .int (nI i)] [] (xMs σ) QL := by
  obtain ⟨P, cP, hP⟩ := p_hose hI (xs (i + 1)) (xs (i + 2))
  refine x_aload_n dL_law_277 rfl ?_
  refine x_aload_n dL_law_278 rfl ?_
  refine x_iload_n dL_law_279 rfl ?_
  refine x_iconst (v := 1) dL_law_280 (by decide) ?_
  refine x_iadd dL_law_281 ?_
  refine l_sld (k := i + 1) dL_law_282 rfl (nI_add i 1) (by omega) (by omega) ?_
  refine x_aload_n dL_law_283 rfl ?_
  refine x_iload_n dL_law_284 rfl ?_
  refine x_iconst (v := 2) dL_law_285 (by decide) ?_
  refine x_iadd dL_law_286 ?_
  refine l_sld (k := i + 2) dL_law_287 rfl (nI_add i 2) (by omega) (by omega) ?_
  refine s_callV dL_law_288 (cP) rfl w_X8_hose lmL_44 im_X8_hose se_X8_hose rfl (rfl) rfl (Nat.le_of_ble_eq_true rfl) rfl (⟨Nat.le_of_ble_eq_true rfl, Nat.le_of_ble_eq_true rfl⟩) (fun v_288 σ_288 h_288 => ?_)
  obtain ⟨r, rfl, P2, cP2, hP2⟩ := hP _ _ h_288
  refine x_aload_n dL_law_291 rfl ?_
  refine x_aload_n dL_law_292 rfl ?_
  refine x_iload_n dL_law_293 rfl ?_
  refine x_iconst (v := 1) dL_law_294 (by decide) ?_
  refine x_iadd dL_law_295 ?_
  refine l_sld (k := i + 1) dL_law_296 rfl (nI_add i 1) (by omega) (by omega) ?_
  refine x_aload_n dL_law_297 rfl ?_
  refine x_iload_n dL_law_298 rfl ?_
  refine x_iconst (v := 2) dL_law_299 (by decide) ?_
  refine x_iadd dL_law_300 ?_
  refine l_sld (k := i + 2) dL_law_301 rfl (nI_add i 2) (by omega) (by omega) ?_
  refine s_callV dL_law_302 (cP2) rfl w_X9_hose lmL_47 im_X9_hose se_X9_hose rfl (rfl) rfl (Nat.le_of_ble_eq_true rfl) rfl (⟨Nat.le_of_ble_eq_true rfl, Nat.le_of_ble_eq_true rfl⟩) (fun v_302 σ_302 h_302 => ?_)
  obtain ⟨rfl, n2, hI2⟩ := hP2 _ _ h_302
  refine x_icmp_eq (tgt := 672) dL_law_305 (by decide) (fun c_305 => ?_) (fun c_305 => (absurd rfl c_305))
  exact kk n2 _ hI2
set_option maxRecDepth 100000 in
theorem law_poll {L i n : Nat} {xs : Nat → Int32} {σ : Sg} (hL : L ≤ 2048) (hi : i + 4 ≤ L) (hI : Inv n σ) (kk : ∀ n' σ', Inv n' σ' → Ex (xEL L xs) 672 [.ref 1000000, .ref 0, .ref 81, .int (nI i)] [] (xMs σ') QL) : Ex (xEL L xs) 310 [.ref 1000000, .ref 0, .ref 81, .int (nI i)] [] (xMs σ) QL := by
  obtain ⟨P, cP, hP⟩ := p_poll hI (xs (i + 1)) (xs (i + 2))
  refine x_aload_n dL_law_310 rfl ?_
  refine x_aload_n dL_law_311 rfl ?_
  refine x_iload_n dL_law_312 rfl ?_
  refine x_iconst (v := 1) dL_law_313 (by decide) ?_
  refine x_iadd dL_law_314 ?_
  refine l_sld (k := i + 1) dL_law_315 rfl (nI_add i 1) (by omega) (by omega) ?_
  refine x_aload_n dL_law_316 rfl ?_
  refine x_iload_n dL_law_317 rfl ?_
  refine x_iconst (v := 2) dL_law_318 (by decide) ?_
  refine x_iadd dL_law_319 ?_
  refine l_sld (k := i + 2) dL_law_320 rfl (nI_add i 2) (by omega) (by omega) ?_
  refine s_callV dL_law_321 (cP) rfl w_X8_poll lmL_48 im_X8_poll se_X8_poll rfl (rfl) rfl (Nat.le_of_ble_eq_true rfl) rfl (⟨Nat.le_of_ble_eq_true rfl, Nat.le_of_ble_eq_true rfl⟩) (fun v_321 σ_321 h_321 => ?_)
  obtain ⟨r, rfl, P2, cP2, hP2⟩ := hP _ _ h_321
  refine x_aload_n dL_law_324 rfl ?_
  refine x_aload_n dL_law_325 rfl ?_
  refine x_iload_n dL_law_326 rfl ?_
  refine x_iconst (v := 1) dL_law_327 (by decide) ?_
  refine x_iadd dL_law_328 ?_
  refine l_sld (k := i + 1) dL_law_329 rfl (nI_add i 1) (by omega) (by omega) ?_
  refine x_aload_n dL_law_330 rfl ?_
  refine x_iload_n dL_law_331 rfl ?_
  refine x_iconst (v := 2) dL_law_332 (by decide) ?_
  refine x_iadd dL_law_333 ?_
  refine l_sld (k := i + 2) dL_law_334 rfl (nI_add i 2) (by omega) (by omega) ?_
  refine s_callV dL_law_335 (cP2) rfl w_X9_poll lmL_51 im_X9_poll se_X9_poll rfl (rfl) rfl (Nat.le_of_ble_eq_true rfl) rfl (⟨Nat.le_of_ble_eq_true rfl, Nat.le_of_ble_eq_true rfl⟩) (fun v_335 σ_335 h_335 => ?_)
  obtain ⟨rfl, n2, hI2⟩ := hP2 _ _ h_335
  refine x_icmp_eq (tgt := 672) dL_law_338 (by decide) (fun c_338 => ?_) (fun c_338 => (absurd rfl c_338))
  exact kk n2 _ hI2
set_option maxRecDepth 100000 in
theorem law_undo {L i n : Nat} {xs : Nat → Int32} {σ : Sg} (hL : L ≤ 2048) (hi : i + 4 ≤ L) (hI : Inv n σ) (kk : ∀ n' σ', Inv n' σ' → Ex (xEL L xs) 672 [.ref 1000000, .ref 0, .ref 81, .int (nI i)] [] (xMs σ') QL) : Ex (xEL L xs) 343 [.ref 1000000, .ref 0, .ref 81, .int (nI i)] [] (xMs σ) QL := by
  obtain ⟨P, cP, hP⟩ := p_undo hI 
  refine x_aload_n dL_law_343 rfl ?_
  refine s_callV dL_law_344 (cP) rfl w_X8_undo lmL_52 im_X8_undo se_X8_undo rfl (rfl) rfl (Nat.le_of_ble_eq_true rfl) rfl (⟨Nat.le_of_ble_eq_true rfl, Nat.le_of_ble_eq_true rfl⟩) (fun v_344 σ_344 h_344 => ?_)
  obtain ⟨r, rfl, P2, cP2, hP2⟩ := hP _ _ h_344
  refine x_aload_n dL_law_347 rfl ?_
  refine s_callV dL_law_348 (cP2) rfl w_X9_undo lmL_55 im_X9_undo se_X9_undo rfl (rfl) rfl (Nat.le_of_ble_eq_true rfl) rfl (⟨Nat.le_of_ble_eq_true rfl, Nat.le_of_ble_eq_true rfl⟩) (fun v_348 σ_348 h_348 => ?_)
  obtain ⟨rfl, n2, hI2⟩ := hP2 _ _ h_348
  refine x_icmp_eq (tgt := 672) dL_law_351 (by decide) (fun c_351 => ?_) (fun c_351 => (absurd rfl c_351))
  exact kk n2 _ hI2
set_option maxRecDepth 100000 in
theorem law_keep {L i n : Nat} {xs : Nat → Int32} {σ : Sg} (hL : L ≤ 2048) (hi : i + 4 ≤ L) (hI : Inv n σ) (kk : ∀ n' σ', Inv n' σ' → Ex (xEL L xs) 672 [.ref 1000000, .ref 0, .ref 81, .int (nI i)] [] (xMs σ') QL) : Ex (xEL L xs) 356 [.ref 1000000, .ref 0, .ref 81, .int (nI i)] [] (xMs σ) QL := by
  obtain ⟨P, cP, hP⟩ := p_keep hI (xs (i + 1))
  refine x_aload_n dL_law_356 rfl ?_
  refine x_aload_n dL_law_357 rfl ?_
  refine x_iload_n dL_law_358 rfl ?_
  refine x_iconst (v := 1) dL_law_359 (by decide) ?_
  refine x_iadd dL_law_360 ?_
  refine l_sld (k := i + 1) dL_law_361 rfl (nI_add i 1) (by omega) (by omega) ?_
  refine s_callV dL_law_362 (cP) rfl w_X8_keep lmL_56 im_X8_keep se_X8_keep rfl (rfl) rfl (Nat.le_of_ble_eq_true rfl) rfl (⟨Nat.le_of_ble_eq_true rfl, Nat.le_of_ble_eq_true rfl⟩) (fun v_362 σ_362 h_362 => ?_)
  obtain ⟨r, rfl, P2, cP2, hP2⟩ := hP _ _ h_362
  refine x_aload_n dL_law_365 rfl ?_
  refine x_aload_n dL_law_366 rfl ?_
  refine x_iload_n dL_law_367 rfl ?_
  refine x_iconst (v := 1) dL_law_368 (by decide) ?_
  refine x_iadd dL_law_369 ?_
  refine l_sld (k := i + 1) dL_law_370 rfl (nI_add i 1) (by omega) (by omega) ?_
  refine s_callV dL_law_371 (cP2) rfl w_X9_keep lmL_59 im_X9_keep se_X9_keep rfl (rfl) rfl (Nat.le_of_ble_eq_true rfl) rfl (⟨Nat.le_of_ble_eq_true rfl, Nat.le_of_ble_eq_true rfl⟩) (fun v_371 σ_371 h_371 => ?_)
  obtain ⟨rfl, n2, hI2⟩ := hP2 _ _ h_371
  refine x_icmp_eq (tgt := 672) dL_law_374 (by decide) (fun c_374 => ?_) (fun c_374 => (absurd rfl c_374))
  exact kk n2 _ hI2
set_option maxRecDepth 100000 in
theorem law_back {L i n : Nat} {xs : Nat → Int32} {σ : Sg} (hL : L ≤ 2048) (hi : i + 4 ≤ L) (hI : Inv n σ) (kk : ∀ n' σ', Inv n' σ' → Ex (xEL L xs) 672 [.ref 1000000, .ref 0, .ref 81, .int (nI i)] [] (xMs σ') QL) : Ex (xEL L xs) 379 [.ref 1000000, .ref 0, .ref 81, .int (nI i)] [] (xMs σ) QL := by
  obtain ⟨P, cP, hP⟩ := p_back hI (xs (i + 1))
  refine x_aload_n dL_law_379 rfl ?_
  refine x_aload_n dL_law_380 rfl ?_
  refine x_iload_n dL_law_381 rfl ?_
  refine x_iconst (v := 1) dL_law_382 (by decide) ?_
  refine x_iadd dL_law_383 ?_
  refine l_sld (k := i + 1) dL_law_384 rfl (nI_add i 1) (by omega) (by omega) ?_
  refine s_callV dL_law_385 (cP) rfl w_X8_back lmL_60 im_X8_back se_X8_back rfl (rfl) rfl (Nat.le_of_ble_eq_true rfl) rfl (⟨Nat.le_of_ble_eq_true rfl, Nat.le_of_ble_eq_true rfl⟩) (fun v_385 σ_385 h_385 => ?_)
  obtain ⟨r, rfl, P2, cP2, hP2⟩ := hP _ _ h_385
  refine x_aload_n dL_law_388 rfl ?_
  refine x_aload_n dL_law_389 rfl ?_
  refine x_iload_n dL_law_390 rfl ?_
  refine x_iconst (v := 1) dL_law_391 (by decide) ?_
  refine x_iadd dL_law_392 ?_
  refine l_sld (k := i + 1) dL_law_393 rfl (nI_add i 1) (by omega) (by omega) ?_
  refine s_callV dL_law_394 (cP2) rfl w_X9_back lmL_63 im_X9_back se_X9_back rfl (rfl) rfl (Nat.le_of_ble_eq_true rfl) rfl (⟨Nat.le_of_ble_eq_true rfl, Nat.le_of_ble_eq_true rfl⟩) (fun v_394 σ_394 h_394 => ?_)
  obtain ⟨rfl, n2, hI2⟩ := hP2 _ _ h_394
  refine x_icmp_eq (tgt := 672) dL_law_397 (by decide) (fun c_397 => ?_) (fun c_397 => (absurd rfl c_397))
  exact kk n2 _ hI2
set_option maxRecDepth 100000 in
theorem law_where {L i n : Nat} {xs : Nat → Int32} {σ : Sg} (hL : L ≤ 2048) (hi : i + 4 ≤ L) (hI : Inv n σ) (kk : ∀ n' σ', Inv n' σ' → Ex (xEL L xs) 672 [.ref 1000000, .ref 0, .ref 81, .int (nI i)] [] (xMs σ') QL) : Ex (xEL L xs) 402 [.ref 1000000, .ref 0, .ref 81, .int (nI i)] [] (xMs σ) QL := by
  obtain ⟨P, cP, hP⟩ := p_where hI (xs (i + 1))
  refine x_aload_n dL_law_402 rfl ?_
  refine x_aload_n dL_law_403 rfl ?_
  refine x_iload_n dL_law_404 rfl ?_
  refine x_iconst (v := 1) dL_law_405 (by decide) ?_
  refine x_iadd dL_law_406 ?_
  refine l_sld (k := i + 1) dL_law_407 rfl (nI_add i 1) (by omega) (by omega) ?_
  refine s_callV dL_law_408 (cP) rfl w_X8_where lmL_64 im_X8_where se_X8_where rfl (rfl) rfl (Nat.le_of_ble_eq_true rfl) rfl (⟨Nat.le_of_ble_eq_true rfl, Nat.le_of_ble_eq_true rfl⟩) (fun v_408 σ_408 h_408 => ?_)
  obtain ⟨r, rfl, P2, cP2, hP2⟩ := hP _ _ h_408
  refine x_aload_n dL_law_411 rfl ?_
  refine x_aload_n dL_law_412 rfl ?_
  refine x_iload_n dL_law_413 rfl ?_
  refine x_iconst (v := 1) dL_law_414 (by decide) ?_
  refine x_iadd dL_law_415 ?_
  refine l_sld (k := i + 1) dL_law_416 rfl (nI_add i 1) (by omega) (by omega) ?_
  refine s_callV dL_law_417 (cP2) rfl w_X9_where lmL_67 im_X9_where se_X9_where rfl (rfl) rfl (Nat.le_of_ble_eq_true rfl) rfl (⟨Nat.le_of_ble_eq_true rfl, Nat.le_of_ble_eq_true rfl⟩) (fun v_417 σ_417 h_417 => ?_)
  obtain ⟨rfl, n2, hI2⟩ := hP2 _ _ h_417
  refine x_icmp_eq (tgt := 672) dL_law_420 (by decide) (fun c_420 => ?_) (fun c_420 => (absurd rfl c_420))
  exact kk n2 _ hI2
set_option maxRecDepth 100000 in
theorem law_wet {L i n : Nat} {xs : Nat → Int32} {σ : Sg} (hL : L ≤ 2048) (hi : i + 4 ≤ L) (hI : Inv n σ) (kk : ∀ n' σ', Inv n' σ' → Ex (xEL L xs) 672 [.ref 1000000, .ref 0, .ref 81, .int (nI i)] [] (xMs σ') QL) : Ex (xEL L xs) 425 [.ref 1000000, .ref 0, .ref 81, .int (nI i)] [] (xMs σ) QL := by
  obtain ⟨P, cP, hP⟩ := p_wet hI (xs (i + 1)) (xs (i + 2))
  refine x_aload_n dL_law_425 rfl ?_
  refine x_aload_n dL_law_426 rfl ?_
  refine x_iload_n dL_law_427 rfl ?_
  refine x_iconst (v := 1) dL_law_428 (by decide) ?_
  refine x_iadd dL_law_429 ?_
  refine l_sld (k := i + 1) dL_law_430 rfl (nI_add i 1) (by omega) (by omega) ?_
  refine x_aload_n dL_law_431 rfl ?_
  refine x_iload_n dL_law_432 rfl ?_
  refine x_iconst (v := 2) dL_law_433 (by decide) ?_
  refine x_iadd dL_law_434 ?_
  refine l_sld (k := i + 2) dL_law_435 rfl (nI_add i 2) (by omega) (by omega) ?_
  refine s_callV dL_law_436 (cP) rfl w_X8_wet lmL_68 im_X8_wet se_X8_wet rfl (rfl) rfl (Nat.le_of_ble_eq_true rfl) rfl (⟨Nat.le_of_ble_eq_true rfl, Nat.le_of_ble_eq_true rfl⟩) (fun v_436 σ_436 h_436 => ?_)
  obtain ⟨r, rfl, P2, cP2, hP2⟩ := hP _ _ h_436
  refine x_aload_n dL_law_439 rfl ?_
  refine x_aload_n dL_law_440 rfl ?_
  refine x_iload_n dL_law_441 rfl ?_
  refine x_iconst (v := 1) dL_law_442 (by decide) ?_
  refine x_iadd dL_law_443 ?_
  refine l_sld (k := i + 1) dL_law_444 rfl (nI_add i 1) (by omega) (by omega) ?_
  refine x_aload_n dL_law_445 rfl ?_
  refine x_iload_n dL_law_446 rfl ?_
  refine x_iconst (v := 2) dL_law_447 (by decide) ?_
  refine x_iadd dL_law_448 ?_
  refine l_sld (k := i + 2) dL_law_449 rfl (nI_add i 2) (by omega) (by omega) ?_
  refine s_callV dL_law_450 (cP2) rfl w_X9_wet lmL_71 im_X9_wet se_X9_wet rfl (rfl) rfl (Nat.le_of_ble_eq_true rfl) rfl (⟨Nat.le_of_ble_eq_true rfl, Nat.le_of_ble_eq_true rfl⟩) (fun v_450 σ_450 h_450 => ?_)
  obtain ⟨rfl, n2, hI2⟩ := hP2 _ _ h_450
  refine x_icmp_eq (tgt := 672) dL_law_453 (by decide) (fun c_453 => ?_) (fun c_453 => (absurd rfl c_453))
  exact kk n2 _ hI2
set_option maxRecDepth 100000 in
theorem law_carry {L i n : Nat} {xs : Nat → Int32} {σ : Sg} (hL : L ≤ 2048) (hi : i + 4 ≤ L) (hI : Inv n σ) (kk : ∀ n' σ', Inv n' σ' → Ex (xEL L xs) 672 [.ref 1000000, .ref 0, .ref 81, .int (nI i)] [] (xMs σ') QL) : Ex (xEL L xs) 458 [.ref 1000000, .ref 0, .ref 81, .int (nI i)] [] (xMs σ) QL := by
  obtain ⟨P, cP, hP⟩ := p_carry hI (xs (i + 1))
  refine x_aload_n dL_law_458 rfl ?_
  refine x_aload_n dL_law_459 rfl ?_
  refine x_iload_n dL_law_460 rfl ?_
  refine x_iconst (v := 1) dL_law_461 (by decide) ?_
  refine x_iadd dL_law_462 ?_
  refine l_sld (k := i + 1) dL_law_463 rfl (nI_add i 1) (by omega) (by omega) ?_
  refine s_callV dL_law_464 (cP) rfl w_X8_carry lmL_72 im_X8_carry se_X8_carry rfl (rfl) rfl (Nat.le_of_ble_eq_true rfl) rfl (⟨Nat.le_of_ble_eq_true rfl, Nat.le_of_ble_eq_true rfl⟩) (fun v_464 σ_464 h_464 => ?_)
  obtain ⟨r, rfl, P2, cP2, hP2⟩ := hP _ _ h_464
  refine x_aload_n dL_law_467 rfl ?_
  refine x_aload_n dL_law_468 rfl ?_
  refine x_iload_n dL_law_469 rfl ?_
  refine x_iconst (v := 1) dL_law_470 (by decide) ?_
  refine x_iadd dL_law_471 ?_
  refine l_sld (k := i + 1) dL_law_472 rfl (nI_add i 1) (by omega) (by omega) ?_
  refine s_callV dL_law_473 (cP2) rfl w_X9_carry lmL_75 im_X9_carry se_X9_carry rfl (rfl) rfl (Nat.le_of_ble_eq_true rfl) rfl (⟨Nat.le_of_ble_eq_true rfl, Nat.le_of_ble_eq_true rfl⟩) (fun v_473 σ_473 h_473 => ?_)
  obtain ⟨rfl, n2, hI2⟩ := hP2 _ _ h_473
  refine x_icmp_eq (tgt := 672) dL_law_476 (by decide) (fun c_476 => ?_) (fun c_476 => (absurd rfl c_476))
  exact kk n2 _ hI2
set_option maxRecDepth 100000 in
theorem law_reach {L i n : Nat} {xs : Nat → Int32} {σ : Sg} (hL : L ≤ 2048) (hi : i + 4 ≤ L) (hI : Inv n σ) (kk : ∀ n' σ', Inv n' σ' → Ex (xEL L xs) 672 [.ref 1000000, .ref 0, .ref 81, .int (nI i)] [] (xMs σ') QL) : Ex (xEL L xs) 481 [.ref 1000000, .ref 0, .ref 81, .int (nI i)] [] (xMs σ) QL := by
  obtain ⟨P, cP, hP⟩ := p_reach hI (xs (i + 1))
  refine x_aload_n dL_law_481 rfl ?_
  refine x_aload_n dL_law_482 rfl ?_
  refine x_iload_n dL_law_483 rfl ?_
  refine x_iconst (v := 1) dL_law_484 (by decide) ?_
  refine x_iadd dL_law_485 ?_
  refine l_sld (k := i + 1) dL_law_486 rfl (nI_add i 1) (by omega) (by omega) ?_
  refine s_callV dL_law_487 (cP) rfl w_X8_reach lmL_76 im_X8_reach se_X8_reach rfl (rfl) rfl (Nat.le_of_ble_eq_true rfl) rfl (⟨Nat.le_of_ble_eq_true rfl, Nat.le_of_ble_eq_true rfl⟩) (fun v_487 σ_487 h_487 => ?_)
  obtain ⟨r, rfl, P2, cP2, hP2⟩ := hP _ _ h_487
  refine x_aload_n dL_law_490 rfl ?_
  refine x_aload_n dL_law_491 rfl ?_
  refine x_iload_n dL_law_492 rfl ?_
  refine x_iconst (v := 1) dL_law_493 (by decide) ?_
  refine x_iadd dL_law_494 ?_
  refine l_sld (k := i + 1) dL_law_495 rfl (nI_add i 1) (by omega) (by omega) ?_
  refine s_callV dL_law_496 (cP2) rfl w_X9_reach lmL_79 im_X9_reach se_X9_reach rfl (rfl) rfl (Nat.le_of_ble_eq_true rfl) rfl (⟨Nat.le_of_ble_eq_true rfl, Nat.le_of_ble_eq_true rfl⟩) (fun v_496 σ_496 h_496 => ?_)
  obtain ⟨rfl, n2, hI2⟩ := hP2 _ _ h_496
  refine x_icmp_eq (tgt := 672) dL_law_499 (by decide) (fun c_499 => ?_) (fun c_499 => (absurd rfl c_499))
  exact kk n2 _ hI2
set_option maxRecDepth 100000 in
theorem law_month {L i n : Nat} {xs : Nat → Int32} {σ : Sg} (hL : L ≤ 2048) (hi : i + 4 ≤ L) (hI : Inv n σ) (kk : ∀ n' σ', Inv n' σ' → Ex (xEL L xs) 672 [.ref 1000000, .ref 0, .ref 81, .int (nI i)] [] (xMs σ') QL) : Ex (xEL L xs) 504 [.ref 1000000, .ref 0, .ref 81, .int (nI i)] [] (xMs σ) QL := by
  obtain ⟨P, cP, hP⟩ := p_month hI (xs (i + 1)) (xs (i + 2))
  refine x_aload_n dL_law_504 rfl ?_
  refine x_aload_n dL_law_505 rfl ?_
  refine x_iload_n dL_law_506 rfl ?_
  refine x_iconst (v := 1) dL_law_507 (by decide) ?_
  refine x_iadd dL_law_508 ?_
  refine l_sld (k := i + 1) dL_law_509 rfl (nI_add i 1) (by omega) (by omega) ?_
  refine x_aload_n dL_law_510 rfl ?_
  refine x_iload_n dL_law_511 rfl ?_
  refine x_iconst (v := 2) dL_law_512 (by decide) ?_
  refine x_iadd dL_law_513 ?_
  refine l_sld (k := i + 2) dL_law_514 rfl (nI_add i 2) (by omega) (by omega) ?_
  refine s_callV dL_law_515 (cP) rfl w_X8_month lmL_80 im_X8_month se_X8_month rfl (rfl) rfl (Nat.le_of_ble_eq_true rfl) rfl (⟨Nat.le_of_ble_eq_true rfl, Nat.le_of_ble_eq_true rfl⟩) (fun v_515 σ_515 h_515 => ?_)
  obtain ⟨r, rfl, P2, cP2, hP2⟩ := hP _ _ h_515
  refine x_aload_n dL_law_518 rfl ?_
  refine x_aload_n dL_law_519 rfl ?_
  refine x_iload_n dL_law_520 rfl ?_
  refine x_iconst (v := 1) dL_law_521 (by decide) ?_
  refine x_iadd dL_law_522 ?_
  refine l_sld (k := i + 1) dL_law_523 rfl (nI_add i 1) (by omega) (by omega) ?_
  refine x_aload_n dL_law_524 rfl ?_
  refine x_iload_n dL_law_525 rfl ?_
  refine x_iconst (v := 2) dL_law_526 (by decide) ?_
  refine x_iadd dL_law_527 ?_
  refine l_sld (k := i + 2) dL_law_528 rfl (nI_add i 2) (by omega) (by omega) ?_
  refine s_callV dL_law_529 (cP2) rfl w_X9_month lmL_83 im_X9_month se_X9_month rfl (rfl) rfl (Nat.le_of_ble_eq_true rfl) rfl (⟨Nat.le_of_ble_eq_true rfl, Nat.le_of_ble_eq_true rfl⟩) (fun v_529 σ_529 h_529 => ?_)
  obtain ⟨rfl, n2, hI2⟩ := hP2 _ _ h_529
  refine x_icmp_eq (tgt := 672) dL_law_532 (by decide) (fun c_532 => ?_) (fun c_532 => (absurd rfl c_532))
  exact kk n2 _ hI2
set_option maxRecDepth 100000 in
theorem law_seen {L i n : Nat} {xs : Nat → Int32} {σ : Sg} (hL : L ≤ 2048) (hi : i + 4 ≤ L) (hI : Inv n σ) (kk : ∀ n' σ', Inv n' σ' → Ex (xEL L xs) 672 [.ref 1000000, .ref 0, .ref 81, .int (nI i)] [] (xMs σ') QL) : Ex (xEL L xs) 537 [.ref 1000000, .ref 0, .ref 81, .int (nI i)] [] (xMs σ) QL := by
  obtain ⟨P, cP, hP⟩ := p_seen hI (xs (i + 1)) (xs (i + 2))
  refine x_aload_n dL_law_537 rfl ?_
  refine x_aload_n dL_law_538 rfl ?_
  refine x_iload_n dL_law_539 rfl ?_
  refine x_iconst (v := 1) dL_law_540 (by decide) ?_
  refine x_iadd dL_law_541 ?_
  refine l_sld (k := i + 1) dL_law_542 rfl (nI_add i 1) (by omega) (by omega) ?_
  refine x_aload_n dL_law_543 rfl ?_
  refine x_iload_n dL_law_544 rfl ?_
  refine x_iconst (v := 2) dL_law_545 (by decide) ?_
  refine x_iadd dL_law_546 ?_
  refine l_sld (k := i + 2) dL_law_547 rfl (nI_add i 2) (by omega) (by omega) ?_
  refine s_callV dL_law_548 (cP) rfl w_X8_seen lmL_84 im_X8_seen se_X8_seen rfl (rfl) rfl (Nat.le_of_ble_eq_true rfl) rfl (⟨Nat.le_of_ble_eq_true rfl, Nat.le_of_ble_eq_true rfl⟩) (fun v_548 σ_548 h_548 => ?_)
  obtain ⟨r, rfl, P2, cP2, hP2⟩ := hP _ _ h_548
  refine x_aload_n dL_law_551 rfl ?_
  refine x_aload_n dL_law_552 rfl ?_
  refine x_iload_n dL_law_553 rfl ?_
  refine x_iconst (v := 1) dL_law_554 (by decide) ?_
  refine x_iadd dL_law_555 ?_
  refine l_sld (k := i + 1) dL_law_556 rfl (nI_add i 1) (by omega) (by omega) ?_
  refine x_aload_n dL_law_557 rfl ?_
  refine x_iload_n dL_law_558 rfl ?_
  refine x_iconst (v := 2) dL_law_559 (by decide) ?_
  refine x_iadd dL_law_560 ?_
  refine l_sld (k := i + 2) dL_law_561 rfl (nI_add i 2) (by omega) (by omega) ?_
  refine s_callV dL_law_562 (cP2) rfl w_X9_seen lmL_87 im_X9_seen se_X9_seen rfl (rfl) rfl (Nat.le_of_ble_eq_true rfl) rfl (⟨Nat.le_of_ble_eq_true rfl, Nat.le_of_ble_eq_true rfl⟩) (fun v_562 σ_562 h_562 => ?_)
  obtain ⟨rfl, n2, hI2⟩ := hP2 _ _ h_562
  refine x_icmp_eq (tgt := 672) dL_law_565 (by decide) (fun c_565 => ?_) (fun c_565 => (absurd rfl c_565))
  exact kk n2 _ hI2
set_option maxRecDepth 100000 in
theorem law_forget {L i n : Nat} {xs : Nat → Int32} {σ : Sg} (hL : L ≤ 2048) (hi : i + 4 ≤ L) (hI : Inv n σ) (kk : ∀ n' σ', Inv n' σ' → Ex (xEL L xs) 672 [.ref 1000000, .ref 0, .ref 81, .int (nI i)] [] (xMs σ') QL) : Ex (xEL L xs) 570 [.ref 1000000, .ref 0, .ref 81, .int (nI i)] [] (xMs σ) QL := by
  obtain ⟨P, cP, hP⟩ := p_forget hI 
  refine x_aload_n dL_law_570 rfl ?_
  refine s_callV dL_law_571 (cP) rfl w_X8_forget lmL_88 im_X8_forget se_X8_forget rfl (rfl) rfl (Nat.le_of_ble_eq_true rfl) rfl (⟨Nat.le_of_ble_eq_true rfl, Nat.le_of_ble_eq_true rfl⟩) (fun v_571 σ_571 h_571 => ?_)
  obtain ⟨r, rfl, P2, cP2, hP2⟩ := hP _ _ h_571
  refine x_aload_n dL_law_574 rfl ?_
  refine s_callV dL_law_575 (cP2) rfl w_X9_forget lmL_91 im_X9_forget se_X9_forget rfl (rfl) rfl (Nat.le_of_ble_eq_true rfl) rfl (⟨Nat.le_of_ble_eq_true rfl, Nat.le_of_ble_eq_true rfl⟩) (fun v_575 σ_575 h_575 => ?_)
  obtain ⟨rfl, n2, hI2⟩ := hP2 _ _ h_575
  refine x_icmp_eq (tgt := 672) dL_law_578 (by decide) (fun c_578 => ?_) (fun c_578 => (absurd rfl c_578))
  exact kk n2 _ hI2
set_option maxRecDepth 100000 in
theorem law_polls {L i n : Nat} {xs : Nat → Int32} {σ : Sg} (hL : L ≤ 2048) (hi : i + 4 ≤ L) (hI : Inv n σ) (kk : ∀ n' σ', Inv n' σ' → Ex (xEL L xs) 672 [.ref 1000000, .ref 0, .ref 81, .int (nI i)] [] (xMs σ') QL) : Ex (xEL L xs) 583 [.ref 1000000, .ref 0, .ref 81, .int (nI i)] [] (xMs σ) QL := by
  obtain ⟨P, cP, hP⟩ := p_polls hI (xs (i + 1))
  refine x_aload_n dL_law_583 rfl ?_
  refine x_aload_n dL_law_584 rfl ?_
  refine x_iload_n dL_law_585 rfl ?_
  refine x_iconst (v := 1) dL_law_586 (by decide) ?_
  refine x_iadd dL_law_587 ?_
  refine l_sld (k := i + 1) dL_law_588 rfl (nI_add i 1) (by omega) (by omega) ?_
  refine s_callV dL_law_589 (cP) rfl w_X8_polls lmL_92 im_X8_polls se_X8_polls rfl (rfl) rfl (Nat.le_of_ble_eq_true rfl) rfl (⟨Nat.le_of_ble_eq_true rfl, Nat.le_of_ble_eq_true rfl⟩) (fun v_589 σ_589 h_589 => ?_)
  obtain ⟨r, rfl, P2, cP2, hP2⟩ := hP _ _ h_589
  refine x_aload_n dL_law_592 rfl ?_
  refine x_aload_n dL_law_593 rfl ?_
  refine x_iload_n dL_law_594 rfl ?_
  refine x_iconst (v := 1) dL_law_595 (by decide) ?_
  refine x_iadd dL_law_596 ?_
  refine l_sld (k := i + 1) dL_law_597 rfl (nI_add i 1) (by omega) (by omega) ?_
  refine s_callV dL_law_598 (cP2) rfl w_X9_polls lmL_95 im_X9_polls se_X9_polls rfl (rfl) rfl (Nat.le_of_ble_eq_true rfl) rfl (⟨Nat.le_of_ble_eq_true rfl, Nat.le_of_ble_eq_true rfl⟩) (fun v_598 σ_598 h_598 => ?_)
  obtain ⟨rfl, n2, hI2⟩ := hP2 _ _ h_598
  refine x_icmp_eq (tgt := 672) dL_law_601 (by decide) (fun c_601 => ?_) (fun c_601 => (absurd rfl c_601))
  exact kk n2 _ hI2
set_option maxRecDepth 100000 in
theorem law_chance {L i n : Nat} {xs : Nat → Int32} {σ : Sg} (hL : L ≤ 2048) (hi : i + 4 ≤ L) (hI : Inv n σ) (kk : ∀ n' σ', Inv n' σ' → Ex (xEL L xs) 672 [.ref 1000000, .ref 0, .ref 81, .int (nI i)] [] (xMs σ') QL) : Ex (xEL L xs) 606 [.ref 1000000, .ref 0, .ref 81, .int (nI i)] [] (xMs σ) QL := by
  obtain ⟨P, cP, hP⟩ := p_chance hI (xs (i + 1)) (xs (i + 2)) (xs (i + 3))
  refine x_aload_n dL_law_606 rfl ?_
  refine x_aload_n dL_law_607 rfl ?_
  refine x_iload_n dL_law_608 rfl ?_
  refine x_iconst (v := 1) dL_law_609 (by decide) ?_
  refine x_iadd dL_law_610 ?_
  refine l_sld (k := i + 1) dL_law_611 rfl (nI_add i 1) (by omega) (by omega) ?_
  refine x_aload_n dL_law_612 rfl ?_
  refine x_iload_n dL_law_613 rfl ?_
  refine x_iconst (v := 2) dL_law_614 (by decide) ?_
  refine x_iadd dL_law_615 ?_
  refine l_sld (k := i + 2) dL_law_616 rfl (nI_add i 2) (by omega) (by omega) ?_
  refine x_aload_n dL_law_617 rfl ?_
  refine x_iload_n dL_law_618 rfl ?_
  refine x_iconst (v := 3) dL_law_619 (by decide) ?_
  refine x_iadd dL_law_620 ?_
  refine l_sld (k := i + 3) dL_law_621 rfl (nI_add i 3) (by omega) (by omega) ?_
  refine s_callV dL_law_622 (cP) rfl w_X8_chance lmL_96 im_X8_chance se_X8_chance rfl (rfl) rfl (Nat.le_of_ble_eq_true rfl) rfl (⟨Nat.le_of_ble_eq_true rfl, Nat.le_of_ble_eq_true rfl⟩) (fun v_622 σ_622 h_622 => ?_)
  obtain ⟨r, rfl, P2, cP2, hP2⟩ := hP _ _ h_622
  refine x_aload_n dL_law_625 rfl ?_
  refine x_aload_n dL_law_626 rfl ?_
  refine x_iload_n dL_law_627 rfl ?_
  refine x_iconst (v := 1) dL_law_628 (by decide) ?_
  refine x_iadd dL_law_629 ?_
  refine l_sld (k := i + 1) dL_law_630 rfl (nI_add i 1) (by omega) (by omega) ?_
  refine x_aload_n dL_law_631 rfl ?_
  refine x_iload_n dL_law_632 rfl ?_
  refine x_iconst (v := 2) dL_law_633 (by decide) ?_
  refine x_iadd dL_law_634 ?_
  refine l_sld (k := i + 2) dL_law_635 rfl (nI_add i 2) (by omega) (by omega) ?_
  refine x_aload_n dL_law_636 rfl ?_
  refine x_iload_n dL_law_637 rfl ?_
  refine x_iconst (v := 3) dL_law_638 (by decide) ?_
  refine x_iadd dL_law_639 ?_
  refine l_sld (k := i + 3) dL_law_640 rfl (nI_add i 3) (by omega) (by omega) ?_
  refine s_callV dL_law_641 (cP2) rfl w_X9_chance lmL_100 im_X9_chance se_X9_chance rfl (rfl) rfl (Nat.le_of_ble_eq_true rfl) rfl (⟨Nat.le_of_ble_eq_true rfl, Nat.le_of_ble_eq_true rfl⟩) (fun v_641 σ_641 h_641 => ?_)
  obtain ⟨rfl, n2, hI2⟩ := hP2 _ _ h_641
  refine x_icmp_eq (tgt := 672) dL_law_644 (by decide) (fun c_644 => ?_) (fun c_644 => (absurd rfl c_644))
  exact kk n2 _ hI2
set_option maxRecDepth 100000 in
theorem law_count {L i n : Nat} {xs : Nat → Int32} {σ : Sg} (hL : L ≤ 2048) (hi : i + 4 ≤ L) (hI : Inv n σ) (kk : ∀ n' σ', Inv n' σ' → Ex (xEL L xs) 672 [.ref 1000000, .ref 0, .ref 81, .int (nI i)] [] (xMs σ') QL) : Ex (xEL L xs) 649 [.ref 1000000, .ref 0, .ref 81, .int (nI i)] [] (xMs σ) QL := by
  obtain ⟨P, cP, hP⟩ := p_count hI (xs (i + 1))
  refine x_aload_n dL_law_649 rfl ?_
  refine x_aload_n dL_law_650 rfl ?_
  refine x_iload_n dL_law_651 rfl ?_
  refine x_iconst (v := 1) dL_law_652 (by decide) ?_
  refine x_iadd dL_law_653 ?_
  refine l_sld (k := i + 1) dL_law_654 rfl (nI_add i 1) (by omega) (by omega) ?_
  refine s_callV dL_law_655 (cP) rfl w_X8_count lmL_101 im_X8_count se_X8_count rfl (rfl) rfl (Nat.le_of_ble_eq_true rfl) rfl (⟨Nat.le_of_ble_eq_true rfl, Nat.le_of_ble_eq_true rfl⟩) (fun v_655 σ_655 h_655 => ?_)
  obtain ⟨r, rfl, P2, cP2, hP2⟩ := hP _ _ h_655
  refine x_aload_n dL_law_658 rfl ?_
  refine x_aload_n dL_law_659 rfl ?_
  refine x_iload_n dL_law_660 rfl ?_
  refine x_iconst (v := 1) dL_law_661 (by decide) ?_
  refine x_iadd dL_law_662 ?_
  refine l_sld (k := i + 1) dL_law_663 rfl (nI_add i 1) (by omega) (by omega) ?_
  refine s_callV dL_law_664 (cP2) rfl w_X9_count lmL_104 im_X9_count se_X9_count rfl (rfl) rfl (Nat.le_of_ble_eq_true rfl) rfl (⟨Nat.le_of_ble_eq_true rfl, Nat.le_of_ble_eq_true rfl⟩) (fun v_664 σ_664 h_664 => ?_)
  obtain ⟨rfl, n2, hI2⟩ := hP2 _ _ h_664
  refine x_icmp_eq (tgt := 672) dL_law_667 (by decide) (fun c_667 => ?_) (fun c_667 => (absurd rfl c_667))
  exact kk n2 _ hI2

set_option maxRecDepth 100000 in
theorem law_one {L i n : Nat} {xs : Nat → Int32} {σ : Sg} (hL : L ≤ 2048) (hi : i + 4 ≤ L) (hI : Inv n σ) (kk : ∀ n' σ', Inv n' σ' → Ex (xEL L xs) 672 [.ref 1000000, .ref 0, .ref 81, .int (nI i)] [] (xMs σ') QL) : Ex (xEL L xs) 26 [.ref 1000000, .ref 0, .ref 81, .int (nI i)] [] (xMs σ) QL := by
  refine x_aload_n dL_law_26 rfl ?_
  refine x_iload_n dL_law_27 rfl ?_
  refine l_sld (k := i) dL_law_28 rfl rfl (by omega) (by omega) ?_
  refine x_bipush (v := 31) dL_law_29 (by decide) ?_
  refine x_iand dL_law_31 ?_
  obtain ⟨k, hk, e⟩ := an_31 (xs i)
  show Ex (xEL L xs) 32 _ [.int (xs i &&& 31)] _ _
  rw [e]
  exact match k, hk with
  | 0, _ => x_tabIn (off := 104) (tgt := 136) dL_law_32 (by decide) (by decide) (by decide) (by decide) (law_write hL hi hI kk)
  | 1, _ => x_tabIn (off := 127) (tgt := 159) dL_law_32 (by decide) (by decide) (by decide) (by decide) (law_erase hL hi hI kk)
  | 2, _ => x_tabIn (off := 140) (tgt := 172) dL_law_32 (by decide) (by decide) (by decide) (by decide) (law_fault hL hi hI kk)
  | 3, _ => x_tabIn (off := 153) (tgt := 185) dL_law_32 (by decide) (by decide) (by decide) (by decide) (law_town hL hi hI kk)
  | 4, _ => x_tabIn (off := 166) (tgt := 198) dL_law_32 (by decide) (by decide) (by decide) (by decide) (law_street hL hi hI kk)
  | 5, _ => x_tabIn (off := 199) (tgt := 231) dL_law_32 (by decide) (by decide) (by decide) (by decide) (law_as hL hi hI kk)
  | 6, _ => x_tabIn (off := 232) (tgt := 264) dL_law_32 (by decide) (by decide) (by decide) (by decide) (law_day hL hi hI kk)
  | 7, _ => x_tabIn (off := 245) (tgt := 277) dL_law_32 (by decide) (by decide) (by decide) (by decide) (law_hose hL hi hI kk)
  | 8, _ => x_tabIn (off := 278) (tgt := 310) dL_law_32 (by decide) (by decide) (by decide) (by decide) (law_poll hL hi hI kk)
  | 9, _ => x_tabIn (off := 311) (tgt := 343) dL_law_32 (by decide) (by decide) (by decide) (by decide) (law_undo hL hi hI kk)
  | 10, _ => x_tabIn (off := 324) (tgt := 356) dL_law_32 (by decide) (by decide) (by decide) (by decide) (law_keep hL hi hI kk)
  | 11, _ => x_tabIn (off := 347) (tgt := 379) dL_law_32 (by decide) (by decide) (by decide) (by decide) (law_back hL hi hI kk)
  | 12, _ => x_tabIn (off := 370) (tgt := 402) dL_law_32 (by decide) (by decide) (by decide) (by decide) (law_where hL hi hI kk)
  | 13, _ => x_tabIn (off := 393) (tgt := 425) dL_law_32 (by decide) (by decide) (by decide) (by decide) (law_wet hL hi hI kk)
  | 14, _ => x_tabIn (off := 426) (tgt := 458) dL_law_32 (by decide) (by decide) (by decide) (by decide) (law_carry hL hi hI kk)
  | 15, _ => x_tabIn (off := 449) (tgt := 481) dL_law_32 (by decide) (by decide) (by decide) (by decide) (law_reach hL hi hI kk)
  | 16, _ => x_tabIn (off := 472) (tgt := 504) dL_law_32 (by decide) (by decide) (by decide) (by decide) (law_month hL hi hI kk)
  | 17, _ => x_tabIn (off := 505) (tgt := 537) dL_law_32 (by decide) (by decide) (by decide) (by decide) (law_seen hL hi hI kk)
  | 18, _ => x_tabIn (off := 538) (tgt := 570) dL_law_32 (by decide) (by decide) (by decide) (by decide) (law_forget hL hi hI kk)
  | 19, _ => x_tabIn (off := 551) (tgt := 583) dL_law_32 (by decide) (by decide) (by decide) (by decide) (law_polls hL hi hI kk)
  | 20, _ => x_tabIn (off := 574) (tgt := 606) dL_law_32 (by decide) (by decide) (by decide) (by decide) (law_chance hL hi hI kk)
  | 21, _ => x_tabIn (off := 617) (tgt := 649) dL_law_32 (by decide) (by decide) (by decide) (by decide) (law_count hL hi hI kk)
  | k + 22, hk => x_tabOut (tgt := 672) dL_law_32 (Or.inr (by rw [nI_toInt (by omega)]; omega)) (by decide) (kk n σ hI)
theorem law_loop {L : Nat} {xs : Nat → Int32} (hL : L ≤ 2048) : ∀ (f i n : Nat) (σ : Sg), Inv n σ → L + 4 ≤ i + 4 * f → i ≤ 2048 → Ex (xEL L xs) 18 [.ref 1000000, .ref 0, .ref 81, .int (nI i)] [] (xMs σ) QL := by
  intro f
  induction f with
  | zero =>
    intro i n σ hI hf hi
    refine x_iload_n dL_law_18 rfl ?_
    refine x_aload_n dL_law_19 rfl ?_
    refine x_slen dL_law_20 rfl ?_
    refine x_iconst (v := nI 4) dL_law_21 (by decide) ?_
    refine x_isub dL_law_22 ?_
    refine x_icmp_gt (tgt := 678) dL_law_23 (by decide) (fun _ => ?_) (fun c => absurd ((lt_4 hL (by omega)).mpr (by omega)) c)
    refine x_iconst (v := 1) dL_law_678 (by decide) ?_
    exact x_iret dL_law_679 rfl rfl ⟨rfl, rfl⟩
  | succ f ih =>
    intro i n σ hI hf hi
    refine x_iload_n dL_law_18 rfl ?_
    refine x_aload_n dL_law_19 rfl ?_
    refine x_slen dL_law_20 rfl ?_
    refine x_iconst (v := nI 4) dL_law_21 (by decide) ?_
    refine x_isub dL_law_22 ?_
    refine x_icmp_gt (tgt := 678) dL_law_23 (by decide) (fun _ => ?_) (fun c => ?_)
    · refine x_iconst (v := 1) dL_law_678 (by decide) ?_
      exact x_iret dL_law_679 rfl rfl ⟨rfl, rfl⟩
    · have hi4 : i + 4 ≤ L := Decidable.of_not_not (fun z => c ((lt_4 hL (by omega)).mpr z))
      refine law_one hL hi4 hI (fun n' σ' hI' => ?_)
      refine x_iinc dL_law_672 rfl (Nat.le_of_ble_eq_true rfl) rfl ?_
      refine x_goto (tgt := 18) dL_law_675 (by decide) ?_
      show Ex (xEL L xs) 18 [.ref 1000000, .ref 0, .ref 81, .int (nI i + nI 4)] [] (xMs σ') QL
      rw [nI_add]
      exact ih (i + 4) n' σ' hI' (by omega) (by omega)
