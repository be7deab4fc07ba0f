/-! ===== write, seen ===== -/
theorem rg_255 {w : Int32} (h : rgF 0 255 w = true) : ∃ c, c < 256 ∧ w = nI c := by
  obtain ⟨c, _, h2, e⟩ := rgF_t (a := 0) (b := 255) (by decide) (by decide) h
  exact ⟨c, by omega, e⟩
theorem p_write {n : Nat} {σ : Sg} (h : Inv n σ) (w : Int32) : Pair YX8_write YX9_write [.int w] σ := by
  obtain ⟨len, c, hT, hM⟩ := h.1
  by_cases hw : rgF 0 255 w = true
  · obtain ⟨x, hx, rfl⟩ := rg_255 hw
    refine ⟨_, k_write σ hT.1 hT.2.1 hx, fun v σ1 h1 => ?_⟩
    rcases h1 with ⟨h160, rfl, rfl⟩ | ⟨hlt, rfl, rfl⟩
    · exact ⟨_, rfl, _, k_mwrite_f σ1 (by rw [hM.1, h160]) hx, fun v2 σ2 h2 => by obtain ⟨rfl, rfl⟩ := h2; exact ⟨rfl, n, h⟩⟩
    · refine ⟨_, rfl, _, k_mwrite _ (len := len) (show sg (sg σ 2 len (nI x)) 1 1 (nI (len + 1)) 81 1 = nI len from hM.1) hlt hx, fun v2 σ2 h2 => ?_⟩
      obtain ⟨rfl, rfl⟩ := h2
      refine ⟨rfl, n, ⟨len + 1, fun i => if i = len then x else c i, ⟨by rw [sg_n _ _ _ (by decide), sg_n _ _ _ (by decide), sg_s], by omega, fun i hi => ?_⟩, ⟨by rw [sg_s], by omega, fun i hi => ?_⟩⟩, ?_, h.2.2.1, ?_, ?_, ?_, ?_⟩
      · rw [sg_n _ _ _ (by decide), sg_n _ _ _ (by decide), sg_n _ _ _ (by decide), sg_row]
        unfold upd
        by_cases e : i = len
        · rw [if_pos e]; simp only [e, if_true]; exact ⟨trivial, hx⟩
        · rw [if_neg e]; simp only [e, if_false]; exact hT.2.2 i (by omega)
      · rw [sg_n _ _ _ (by decide), sg_row]
        unfold upd
        by_cases e : i = len
        · rw [if_pos e]; simp only [e, if_true]; exact ⟨trivial, hx⟩
        · rw [if_neg e]; simp only [e, if_false]; exact hM.2.2 i (by omega)
      · exact IvP_fr h.2.1 (fun d a b => by rw [sg_n _ _ _ (by omega), sg_n _ _ _ (by omega), sg_n _ _ _ (by omega), sg_n _ _ _ (by omega)]) rfl
      · exact IvU_fr h.2.2.2.1 (fun d a b => by rw [sg_n _ _ _ (by omega), sg_n _ _ _ (by omega), sg_n _ _ _ (by omega), sg_n _ _ _ (by omega)]) rfl rfl
      · exact IvK_fr h.2.2.2.2.1 (fun d a b => by rw [sg_n _ _ _ (by omega), sg_n _ _ _ (by omega), sg_n _ _ _ (by omega), sg_n _ _ _ (by omega)]) rfl rfl
      · exact IvN_fr h.2.2.2.2.2.1 (fun d a b => by rw [sg_n _ _ _ (by omega), sg_n _ _ _ (by omega), sg_n _ _ _ (by omega), sg_n _ _ _ (by omega)]) rfl rfl
      · exact NB_fr h.2.2.2.2.2.2 (fun i hi => by rw [sg_k _ _ _ (by omega), sg_n _ _ _ (by decide), sg_n _ _ _ (by decide), sg_n _ _ _ (by decide)])
  · exact Pair_same h (k_write_o σ w (rg_no hw)) (k_mwrite_o σ w (rg_no hw))
