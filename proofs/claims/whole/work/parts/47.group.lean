theorem up2_k {α : Type} (f : Nat → Nat → α) {i k a b : Nat} (x : α) (h : b ≠ k) : up2 f i k x a b = f a b := by simp [up2, h]
theorem e_aim_E (D : cS) (i : Nat) (d b : Int32) (a : Nat) {k : Nat} (h : k < 12 ∨ 15 < k) : cE (e_aim D i d b) a k = cE D a k := by
  unfold e_aim
  rw [cE_sE, cE_sE, cE_sE, cE_sE, up2_k _ _ (by omega), up2_k _ _ (by omega), up2_k _ _ (by omega), up2_k _ _ (by omega)]
theorem m_aim_E (C : cS) (j s : Nat) (two : Int32) (a : Nat) {k : Nat} (h : k < 12 ∨ 15 < k) : cE (m_aim C j s two) a k = cE C a k := by
  unfold m_aim
  rw [itr_keep (fun D : cS => cE D a k) (m_aimK C j (m_way C j s two)) (fun i D => by unfold m_aimK; rw [e_aim_E D _ _ _ a h])]
  rfl
theorem e_aim_T (D : cS) (i : Nat) (d b : Int32) : cT (e_aim D i d b) = cT D := by unfold e_aim; rw [cT_sE, cT_sE, cT_sE, cT_sE]
theorem e_aim_B (D : cS) (i : Nat) (d b : Int32) : cB (e_aim D i d b) = cB D := by unfold e_aim; rw [cB_sE, cB_sE, cB_sE, cB_sE]
theorem e_aim_G (D : cS) (i : Nat) (d b : Int32) : cG (e_aim D i d b) = cG D := by unfold e_aim; rw [cG_sE, cG_sE, cG_sE, cG_sE]
theorem e_aim_V (D : cS) (i : Nat) (d b : Int32) : cV (e_aim D i d b) = cV D := by unfold e_aim; rw [cV_sE, cV_sE, cV_sE, cV_sE]
theorem e_aim_D (D : cS) (i : Nat) (d b : Int32) : cD (e_aim D i d b) = cD D := by unfold e_aim; rw [cD_sE, cD_sE, cD_sE, cD_sE]
theorem m_aim_T (C : cS) (j s : Nat) (two : Int32) : cT (m_aim C j s two) = cT C := by unfold m_aim; rw [itr_keep cT (m_aimK C j (m_way C j s two)) (fun i D => by unfold m_aimK; rw [e_aim_T])]; rfl
theorem m_aim_B (C : cS) (j s : Nat) (two : Int32) : cB (m_aim C j s two) = cB C := by unfold m_aim; rw [itr_keep cB (m_aimK C j (m_way C j s two)) (fun i D => by unfold m_aimK; rw [e_aim_B])]; rfl
theorem m_aim_G (C : cS) (j s : Nat) (two : Int32) : cG (m_aim C j s two) = cG C := by unfold m_aim; rw [itr_keep cG (m_aimK C j (m_way C j s two)) (fun i D => by unfold m_aimK; rw [e_aim_G])]; rfl
theorem m_aim_V (C : cS) (j s : Nat) (two : Int32) : cV (m_aim C j s two) = cV C := by unfold m_aim; rw [itr_keep cV (m_aimK C j (m_way C j s two)) (fun i D => by unfold m_aimK; rw [e_aim_V])]; rfl
theorem m_aim_D (C : cS) (j s : Nat) (two : Int32) : cD (m_aim C j s two) = cD C := by unfold m_aim; rw [itr_keep cD (m_aimK C j (m_way C j s two)) (fun i D => by unfold m_aimK; rw [e_aim_D])]; rfl
theorem m_aim_N (C : cS) (j s : Nat) (two : Int32) : cN (m_aim C j s two) = cN C := by unfold m_aim; rw [itr_keep cN (m_aimK C j (m_way C j s two)) (fun i D => by unfold m_aimK; rw [e_aim_N])]; rfl
theorem m_aim_M (C : cS) (j s : Nat) (two : Int32) : cM (m_aim C j s two) = up2 (cM C) j 2 (m_way C j s two) := by unfold m_aim; rw [itr_keep cM (m_aimK C j (m_way C j s two)) (fun i D => by unfold m_aimK; rw [e_aim_M])]; rfl
theorem m_judge_M (C : cS) (j s : Nat) : cM (m_judge C j s) = up2 (up2 (cM C) j 7 (m_flat C j s)) j 5 (m_ideal C j s) := rfl
theorem bOK_M {C D : cS} (hM : ∀ j, cM D j 1 = cM C j 1) (hN : cN D = cN C) {j s : Nat} (h : bOK C j s) : bOK D j s := ⟨h.1, h.2.1, by rw [hM]; exact h.2.2.1, by rw [hN]; exact h.2.2.2⟩
theorem cRows_M {C D : cS} (hM : ∀ j, cM D j 1 = cM C j 1) (hN : cN D = cN C) (h : cRows C) : cRows D := fun j hj => by
  have := bOK_M hM hN (h j hj)
  unfold csz at this ⊢
  rw [hM]
  exact this
/-- stems and slope of row j -/
def c_fin1 (D : cS) (j : Nat) : cS := m_judge (m_aim D j (csz D j) (c_two D)) j (csz D j)
def c_finT (D : cS) (j : Nat) : Int64 × Int32 × Int32 := m_fi (c_fin1 D j) j (csz D j)
def c_fin2 (D : cS) (j : Nat) : cS := m_set (c_fin1 D j) j (c_finT D j)
/-- row j is finished: a beam, an open one, or nothing -/
def c_fin (D : cS) (j : Nat) : cS := if csz D j < 2 then D else if (c_finT D j).1 < 0 then sT (c_fin2 D j) 6 (cT (c_fin2 D j) 6 + 1) else sT (itr (m_hold (c_fin2 D j) j (cT (c_fin2 D j) 5)) (csz D j) 0 (c_fin2 D j)) 5 (cT (c_fin2 D j) 5 + 1)
theorem c_fin1_T (D : cS) (j : Nat) : cT (c_fin1 D j) = cT D := by unfold c_fin1 m_judge; rw [cT_sM, cT_sM, m_aim_T]
theorem c_fin1_N (D : cS) (j : Nat) : cN (c_fin1 D j) = cN D := by unfold c_fin1 m_judge; rw [cN_sM, cN_sM, m_aim_N]
theorem c_fin1_B (D : cS) (j : Nat) : cB (c_fin1 D j) = cB D := by unfold c_fin1 m_judge; rw [cB_sM, cB_sM, m_aim_B]
theorem c_fin1_G (D : cS) (j : Nat) : cG (c_fin1 D j) = cG D := by unfold c_fin1 m_judge; rw [cG_sM, cG_sM, m_aim_G]
theorem c_fin1_V (D : cS) (j : Nat) : cV (c_fin1 D j) = cV D := by unfold c_fin1 m_judge; rw [cV_sM, cV_sM, m_aim_V]
theorem c_fin1_E (D : cS) (j a : Nat) {k : Nat} (h : k < 12 ∨ 15 < k) : cE (c_fin1 D j) a k = cE D a k := by unfold c_fin1 m_judge; rw [cE_sM, cE_sM, m_aim_E D j _ _ a h]
theorem c_fin1_M1 (D : cS) (j i : Nat) : cM (c_fin1 D j) i 1 = cM D i 1 := by
  unfold c_fin1
  rw [m_judge_M, up2_k _ _ (by decide), up2_k _ _ (by decide), m_aim_M, up2_k _ _ (by decide)]
theorem c_fin2_M1 (D : cS) (j i : Nat) : cM (c_fin2 D j) i 1 = cM D i 1 := by
  unfold c_fin2 m_set
  rw [cM_sM, cM_sM, cM_sD, up2_k _ _ (by decide), up2_k _ _ (by decide), c_fin1_M1]
theorem c_fin2_T (D : cS) (j : Nat) : cT (c_fin2 D j) = cT D := by unfold c_fin2 m_set; rw [cT_sM, cT_sM, cT_sD, c_fin1_T]
theorem c_fin2_N (D : cS) (j : Nat) : cN (c_fin2 D j) = cN D := by unfold c_fin2 m_set; rw [cN_sM, cN_sM, cN_sD, c_fin1_N]
theorem c_fin2_B (D : cS) (j : Nat) : cB (c_fin2 D j) = cB D := by unfold c_fin2 m_set; rw [cB_sM, cB_sM, cB_sD, c_fin1_B]
theorem c_fin2_G (D : cS) (j : Nat) : cG (c_fin2 D j) = cG D := by unfold c_fin2 m_set; rw [cG_sM, cG_sM, cG_sD, c_fin1_G]
theorem c_fin2_V (D : cS) (j : Nat) : cV (c_fin2 D j) = cV D := by unfold c_fin2 m_set; rw [cV_sM, cV_sM, cV_sD, c_fin1_V]
theorem c_fin2_E (D : cS) (j a : Nat) {k : Nat} (h : k < 12 ∨ 15 < k) : cE (c_fin2 D j) a k = cE D a k := by unfold c_fin2 m_set; rw [cE_sM, cE_sM, cE_sD, c_fin1_E D j a h]
theorem m_hold_E (C : cS) (j : Nat) (num : Int32) (i : Nat) (D : cS) (a : Nat) {k : Nat} (h : k ≠ 10) (h' : k ≠ 11) : cE (m_hold C j num i D) a k = cE D a k := by
  unfold m_hold
  rw [cE_sE, cE_sE, up2_k _ _ h', up2_k _ _ h]
theorem c_hold_T (C : cS) (j : Nat) (num : Int32) (m i : Nat) (D : cS) : cT (itr (m_hold C j num) m i D) = cT D := itr_keep cT (m_hold C j num) (fun _ _ => by unfold m_hold; rw [cT_sE, cT_sE]) _ _ _
theorem c_hold_B (C : cS) (j : Nat) (num : Int32) (m i : Nat) (D : cS) : cB (itr (m_hold C j num) m i D) = cB D := itr_keep cB (m_hold C j num) (fun _ _ => by unfold m_hold; rw [cB_sE, cB_sE]) _ _ _
theorem c_hold_G (C : cS) (j : Nat) (num : Int32) (m i : Nat) (D : cS) : cG (itr (m_hold C j num) m i D) = cG D := itr_keep cG (m_hold C j num) (fun _ _ => by unfold m_hold; rw [cG_sE, cG_sE]) _ _ _
theorem c_hold_V (C : cS) (j : Nat) (num : Int32) (m i : Nat) (D : cS) : cV (itr (m_hold C j num) m i D) = cV D := itr_keep cV (m_hold C j num) (fun _ _ => by unfold m_hold; rw [cV_sE, cV_sE]) _ _ _
theorem c_hold_M (C : cS) (j : Nat) (num : Int32) (m i : Nat) (D : cS) : cM (itr (m_hold C j num) m i D) = cM D := itr_keep cM (m_hold C j num) (fun _ _ => by unfold m_hold; rw [cM_sE, cM_sE]) _ _ _
theorem c_hold_N (C : cS) (j : Nat) (num : Int32) (m i : Nat) (D : cS) : cN (itr (m_hold C j num) m i D) = cN D := itr_keep cN (m_hold C j num) (fun _ _ => by unfold m_hold; rw [cN_sE, cN_sE]) _ _ _
theorem c_hold_D (C : cS) (j : Nat) (num : Int32) (m i : Nat) (D : cS) : cD (itr (m_hold C j num) m i D) = cD D := itr_keep cD (m_hold C j num) (fun _ _ => by unfold m_hold; rw [cD_sE, cD_sE]) _ _ _
theorem c_fin_N (D : cS) (j : Nat) : cN (c_fin D j) = cN D := by
  unfold c_fin
  split
  · rfl
  · split
    · rw [cN_sT, c_fin2_N]
    · rw [cN_sT, c_hold_N, c_fin2_N]
theorem c_fin_M1 (D : cS) (j i : Nat) : cM (c_fin D j) i 1 = cM D i 1 := by
  unfold c_fin
  split
  · rfl
  · split
    · rw [cM_sT, c_fin2_M1]
    · rw [cM_sT, c_hold_M, c_fin2_M1]
theorem c_fin_B (D : cS) (j : Nat) : cB (c_fin D j) = cB D := by
  unfold c_fin
  split
  · rfl
  · split
    · rw [cB_sT, c_fin2_B]
    · rw [cB_sT, c_hold_B, c_fin2_B]
theorem c_fin_G (D : cS) (j : Nat) : cG (c_fin D j) = cG D := by
  unfold c_fin
  split
  · rfl
  · split
    · rw [cG_sT, c_fin2_G]
    · rw [cG_sT, c_hold_G, c_fin2_G]
theorem c_fin_V (D : cS) (j : Nat) : cV (c_fin D j) = cV D := by
  unfold c_fin
  split
  · rfl
  · split
    · rw [cV_sT, c_fin2_V]
    · rw [cV_sT, c_hold_V, c_fin2_V]
theorem c_fin_E (D : cS) (j a : Nat) {k : Nat} (h : k < 10 ∨ 15 < k) : cE (c_fin D j) a k = cE D a k := by
  unfold c_fin
  split
  · rfl
  · split
    · rw [cE_sT, c_fin2_E D j a (by omega)]
    · rw [cE_sT, itr_keep (fun D : cS => cE D a k) _ (fun i E => m_hold_E _ _ _ i E a (by omega) (by omega)), c_fin2_E D j a (by omega)]
theorem c_fin_T (D : cS) (j : Nat) {k : Nat} (h5 : k ≠ 5) (h6 : k ≠ 6) : cT (c_fin D j) k = cT D k := by
  unfold c_fin
  split
  · rfl
  · split
    · rw [cT_sT, c_fin2_T]; simp [upd, h6]
    · rw [cT_sT, c_hold_T, c_fin2_T]; simp [upd, h5]
theorem c_fin_T5 (D : cS) (j : Nat) : cT (c_fin D j) 5 = cT D 5 ∨ (2 ≤ csz D j ∧ cT (c_fin D j) 5 = cT D 5 + 1) := by
  unfold c_fin
  split
  · exact Or.inl rfl
  · split
    · rw [cT_sT, c_fin2_T]; simp [upd]
    · rename_i h _
      rw [cT_sT, c_hold_T, c_fin2_T]
      refine Or.inr ⟨by omega, ?_⟩
      simp [upd]
section
variable {w : zW} {f : Nat → Option zO} {o : Nat} {n : Nat × Nat} {ec gc : Nat}
theorem ctS_finish {D : cS} {j : Nat} (hb : bOK D j (csz D j)) : zm_C w mX3_finish [.ref o, .ref (o + 71 + 2 * j)] (cH f o D, n) none (cH f o (c_fin D j), n) := by
  have hj := hb.1
  have hs := hb.2.1
  have hM := hb.2.2.1
  refine zm_C.of (mc := 0) (ms := 0) rfl rfl (by decide) (Nat.le_of_ble_eq_true rfl) ?_
  intro Γ X
  have e2 : (2 : Int32) ≤ nI (csz D j) ↔ 2 ≤ csz D j := nI_leI (a := 2) (by decide) (by omega)
  refine bkX3_finish_0 X [some (.ref o), some (.ref (o + 71 + 2 * j))] [] _ ?_
  simp only [zi_push, zi_ldi, zi_ldl, zi_lda, zi_sti, zi_stl, zi_sta, zi_inc, zi_b, zi_d, zi_u, zi_bl, zi_dl, zi_ul, zi_lcmp, zi_i2l, zi_l2i, zi_if, zi_ic, zi_nul, zi_dup, zi_pop, zi_dup_x1, zi_dup2, zi_gf, zi_pf, zi_ia, zi_is, zi_la, zi_lst, zi_aa, zi_as, zi_len, zi_new, zi_na, zi_mx, zi_mn, zi_sw, zi_swx, zi_cv, zi_cs, zi_ci, zi_obj, zi_iret, zi_lret, zi_zret, zi_aret, zi_vret, zm_s1, zm_s2, zm_k, zm_tk, zm_Rt, zm_is, List.getElem?_cons_zero, List.getElem?_cons_succ, List.set_cons_zero, List.set_cons_succ, List.length_cons, List.length_nil, List.map_cons, List.map_nil, List.sum_cons, List.sum_nil, List.nil_append, List.cons_append, Option.toList, Value.category, reduceIte, Nat.reduceAdd, Nat.reduceLeDiff, Nat.reduceLT, Nat.reduceEqDiff, Nat.reduceMul, and_true, true_and, and_self, Nat.zero_add, Nat.add_zero, Nat.le_refl, true_or, or_true, not_true_eq_false, not_false_eq_true, zm_ft_int, zm_ft_long, zm_ft_ref, zm_ft_null, zm_ft_b0, zm_ft_b1, i_2, i_3, i_4, i_10, io_16, io_64, io_33, io_2, cF_ev, cF_bm, va_rf, cH_0, cH_1, cH_2, cH_3, cH_4, cH_5, uT4, uT5, uT6, uT7, uB1, uB2, uB3, uG, uV, cH_bm hj, hM, e2]
  refine ⟨fun p => ?_, fun p => by rw [c_fin, if_pos (by omega)]⟩
  have hb1 : bOK (m_aim D j (csz D j) (c_two D)) j (csz D j) := bOK_M (fun i => by rw [m_aim_M, up2_k _ _ (by decide)]) (m_aim_N D j _ _) hb
  have hb2 : bOK (c_fin1 D j) j (csz D j) := bOK_M (c_fin1_M1 D j) (c_fin1_N D j) hb
  have hb3 : bOK (c_fin2 D j) j (csz D j) := bOK_M (c_fin2_M1 D j) (c_fin2_N D j) hb
  have hE1 : m_judge (m_aim D j (csz D j) (c_two D)) j (csz D j) = c_fin1 D j := rfl
  have hE2 : m_set (c_fin1 D j) j (m_fi (c_fin1 D j) j (csz D j)) = c_fin2 D j := rfl
  have hE3 : m_fi (c_fin1 D j) j (csz D j) = c_finT D j := rfl
  refine zm_call.of (ctS_isTwoVoiced) (Nat.le_refl _) (Nat.le_refl _) ?_
  simp only [zi_push, zi_ldi, zi_ldl, zi_lda, zi_sti, zi_stl, zi_sta, zi_inc, zi_b, zi_d, zi_u, zi_bl, zi_dl, zi_ul, zi_lcmp, zi_i2l, zi_l2i, zi_if, zi_ic, zi_nul, zi_dup, zi_pop, zi_dup_x1, zi_dup2, zi_gf, zi_pf, zi_ia, zi_is, zi_la, zi_lst, zi_aa, zi_as, zi_len, zi_new, zi_na, zi_mx, zi_mn, zi_sw, zi_swx, zi_cv, zi_cs, zi_ci, zi_obj, zi_iret, zi_lret, zi_zret, zi_aret, zi_vret, zm_s1, zm_s2, zm_k, zm_tk, zm_Rt, zm_is, List.getElem?_cons_zero, List.getElem?_cons_succ, List.set_cons_zero, List.set_cons_succ, List.length_cons, List.length_nil, List.map_cons, List.map_nil, List.sum_cons, List.sum_nil, List.nil_append, List.cons_append, Option.toList, Value.category, reduceIte, Nat.reduceAdd, Nat.reduceLeDiff, Nat.reduceLT, Nat.reduceEqDiff, Nat.reduceMul, and_true, true_and, and_self, Nat.zero_add, Nat.add_zero, Nat.le_refl, true_or, or_true, not_true_eq_false, not_false_eq_true, zm_ft_int, zm_ft_long, zm_ft_ref, zm_ft_null, zm_ft_b0, zm_ft_b1, i_2, i_3, i_4, i_10, io_16, io_64, io_33, io_2, cF_ev, cF_bm, va_rf, cH_0, cH_1, cH_2, cH_3, cH_4, cH_5, uT4, uT5, uT6, uT7, uB1, uB2, uB3, uG, uV, cH_bm hj]
  refine zm_call.of (ctM_aimStems hb (by omega) _) (Nat.le_refl _) (Nat.le_refl _) ?_
  simp only [zi_push, zi_ldi, zi_ldl, zi_lda, zi_sti, zi_stl, zi_sta, zi_inc, zi_b, zi_d, zi_u, zi_bl, zi_dl, zi_ul, zi_lcmp, zi_i2l, zi_l2i, zi_if, zi_ic, zi_nul, zi_dup, zi_pop, zi_dup_x1, zi_dup2, zi_gf, zi_pf, zi_ia, zi_is, zi_la, zi_lst, zi_aa, zi_as, zi_len, zi_new, zi_na, zi_mx, zi_mn, zi_sw, zi_swx, zi_cv, zi_cs, zi_ci, zi_obj, zi_iret, zi_lret, zi_zret, zi_aret, zi_vret, zm_s1, zm_s2, zm_k, zm_tk, zm_Rt, zm_is, List.getElem?_cons_zero, List.getElem?_cons_succ, List.set_cons_zero, List.set_cons_succ, List.length_cons, List.length_nil, List.map_cons, List.map_nil, List.sum_cons, List.sum_nil, List.nil_append, List.cons_append, Option.toList, Value.category, reduceIte, Nat.reduceAdd, Nat.reduceLeDiff, Nat.reduceLT, Nat.reduceEqDiff, Nat.reduceMul, and_true, true_and, and_self, Nat.zero_add, Nat.add_zero, Nat.le_refl, true_or, or_true, not_true_eq_false, not_false_eq_true, zm_ft_int, zm_ft_long, zm_ft_ref, zm_ft_null, zm_ft_b0, zm_ft_b1, i_2, i_3, i_4, i_10, io_16, io_64, io_33, io_2, cF_ev, cF_bm, va_rf, cH_0, cH_1, cH_2, cH_3, cH_4, cH_5, uT4, uT5, uT6, uT7, uB1, uB2, uB3, uG, uV, cH_bm hj]
  refine zm_call.of (ctM_judgeSlope hb1 (by omega)) (Nat.le_refl _) (Nat.le_refl _) ?_
  rw [hE1]
  simp only [zi_push, zi_ldi, zi_ldl, zi_lda, zi_sti, zi_stl, zi_sta, zi_inc, zi_b, zi_d, zi_u, zi_bl, zi_dl, zi_ul, zi_lcmp, zi_i2l, zi_l2i, zi_if, zi_ic, zi_nul, zi_dup, zi_pop, zi_dup_x1, zi_dup2, zi_gf, zi_pf, zi_ia, zi_is, zi_la, zi_lst, zi_aa, zi_as, zi_len, zi_new, zi_na, zi_mx, zi_mn, zi_sw, zi_swx, zi_cv, zi_cs, zi_ci, zi_obj, zi_iret, zi_lret, zi_zret, zi_aret, zi_vret, zm_s1, zm_s2, zm_k, zm_tk, zm_Rt, zm_is, List.getElem?_cons_zero, List.getElem?_cons_succ, List.set_cons_zero, List.set_cons_succ, List.length_cons, List.length_nil, List.map_cons, List.map_nil, List.sum_cons, List.sum_nil, List.nil_append, List.cons_append, Option.toList, Value.category, reduceIte, Nat.reduceAdd, Nat.reduceLeDiff, Nat.reduceLT, Nat.reduceEqDiff, Nat.reduceMul, and_true, true_and, and_self, Nat.zero_add, Nat.add_zero, Nat.le_refl, true_or, or_true, not_true_eq_false, not_false_eq_true, zm_ft_int, zm_ft_long, zm_ft_ref, zm_ft_null, zm_ft_b0, zm_ft_b1, i_2, i_3, i_4, i_10, io_16, io_64, io_33, io_2, cF_ev, cF_bm, va_rf, cH_0, cH_1, cH_2, cH_3, cH_4, cH_5, uT4, uT5, uT6, uT7, uB1, uB2, uB3, uG, uV, cH_bm hj]
  refine zm_call.of (ctM_findPlace hb2 (by omega)) (Nat.le_refl _) (Nat.le_refl _) ?_
  rw [hE2, hE3]
  simp only [zi_push, zi_ldi, zi_ldl, zi_lda, zi_sti, zi_stl, zi_sta, zi_inc, zi_b, zi_d, zi_u, zi_bl, zi_dl, zi_ul, zi_lcmp, zi_i2l, zi_l2i, zi_if, zi_ic, zi_nul, zi_dup, zi_pop, zi_dup_x1, zi_dup2, zi_gf, zi_pf, zi_ia, zi_is, zi_la, zi_lst, zi_aa, zi_as, zi_len, zi_new, zi_na, zi_mx, zi_mn, zi_sw, zi_swx, zi_cv, zi_cs, zi_ci, zi_obj, zi_iret, zi_lret, zi_zret, zi_aret, zi_vret, zm_s1, zm_s2, zm_k, zm_tk, zm_Rt, zm_is, List.getElem?_cons_zero, List.getElem?_cons_succ, List.set_cons_zero, List.set_cons_succ, List.length_cons, List.length_nil, List.map_cons, List.map_nil, List.sum_cons, List.sum_nil, List.nil_append, List.cons_append, Option.toList, Value.category, reduceIte, Nat.reduceAdd, Nat.reduceLeDiff, Nat.reduceLT, Nat.reduceEqDiff, Nat.reduceMul, and_true, true_and, and_self, Nat.zero_add, Nat.add_zero, Nat.le_refl, true_or, or_true, not_true_eq_false, not_false_eq_true, zm_ft_int, zm_ft_long, zm_ft_ref, zm_ft_null, zm_ft_b0, zm_ft_b1, i_2, i_3, i_4, i_10, io_16, io_64, io_33, io_2, cF_ev, cF_bm, va_rf, cH_0, cH_1, cH_2, cH_3, cH_4, cH_5, uT4, uT5, uT6, uT7, uB1, uB2, uB3, uG, uV, cH_bm hj]
  by_cases ht : (c_finT D j).1 < 0
  · rw [if_pos ht]
    refine ⟨fun _ => ?_, fun q => absurd rfl q⟩
    rw [c_fin, if_neg (by omega), if_pos ht]
  · rw [if_neg ht]
    refine ⟨fun q => absurd q (by decide), fun _ => ?_⟩
    refine zm_call.of (ctM_hold hb3 _) (Nat.le_refl _) (Nat.le_refl _) ?_
    simp only [zi_push, zi_ldi, zi_ldl, zi_lda, zi_sti, zi_stl, zi_sta, zi_inc, zi_b, zi_d, zi_u, zi_bl, zi_dl, zi_ul, zi_lcmp, zi_i2l, zi_l2i, zi_if, zi_ic, zi_nul, zi_dup, zi_pop, zi_dup_x1, zi_dup2, zi_gf, zi_pf, zi_ia, zi_is, zi_la, zi_lst, zi_aa, zi_as, zi_len, zi_new, zi_na, zi_mx, zi_mn, zi_sw, zi_swx, zi_cv, zi_cs, zi_ci, zi_obj, zi_iret, zi_lret, zi_zret, zi_aret, zi_vret, zm_s1, zm_s2, zm_k, zm_tk, zm_Rt, zm_is, List.getElem?_cons_zero, List.getElem?_cons_succ, List.set_cons_zero, List.set_cons_succ, List.length_cons, List.length_nil, List.map_cons, List.map_nil, List.sum_cons, List.sum_nil, List.nil_append, List.cons_append, Option.toList, Value.category, reduceIte, Nat.reduceAdd, Nat.reduceLeDiff, Nat.reduceLT, Nat.reduceEqDiff, Nat.reduceMul, and_true, true_and, and_self, Nat.zero_add, Nat.add_zero, Nat.le_refl, true_or, or_true, not_true_eq_false, not_false_eq_true, zm_ft_int, zm_ft_long, zm_ft_ref, zm_ft_null, zm_ft_b0, zm_ft_b1, i_2, i_3, i_4, i_10, io_16, io_64, io_33, io_2, cF_ev, cF_bm, va_rf, cH_0, cH_1, cH_2, cH_3, cH_4, cH_5, uT4, uT5, uT6, uT7, uB1, uB2, uB3, uG, uV]
    rw [c_fin, if_neg (by omega), if_neg ht, c_hold_T]
end
