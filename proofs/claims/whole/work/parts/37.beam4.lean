theorem lg_lt (x y : Int64) : lg_cmp x y < 0 ↔ x < y := by
  unfold lg_cmp
  by_cases h1 : x > y
  · rw [if_pos h1]
    refine iff_of_false (by decide) ?_
    rw [gt_iff_lt, Int64.lt_iff_toInt_lt] at h1
    rw [Int64.lt_iff_toInt_lt]
    omega
  · rw [if_neg h1]
    by_cases h2 : x = y
    · rw [if_pos h2]
      refine iff_of_false (by decide) ?_
      rw [h2, Int64.lt_iff_toInt_lt]
      omega
    · rw [if_neg h2]
      refine iff_of_true (by decide) ?_
      rw [gt_iff_lt, Int64.lt_iff_toInt_lt] at h1
      rw [Int64.lt_iff_toInt_lt]
      have h3 : ¬ x.toInt = y.toInt := fun q => h2 (Int64.toInt_inj.mp q)
      omega
theorem m_bk_congr {C D : cS} (hE : cE C = cE D) (hN : cN C = cN D) (j : Nat) (f s : Int32) (S : Nat) : ∀ (m i : Nat) (a : Int64), m_bk C j f s S m i a = m_bk D j f s S m i a
  | 0, _, _ => rfl
  | m + 1, i, a => by
    unfold m_bk e_len m_ht
    rw [hE, hN, m_bk_congr hE hN j f s S m]
def m_set (C : cS) (j : Nat) (t : Int64 × Int32 × Int32) : cS := sM (sM (sD C j t.1) j 3 t.2.1) j 4 t.2.2
theorem m_set_E (C : cS) (j : Nat) (t : Int64 × Int32 × Int32) : cE (m_set C j t) = cE C := rfl
theorem m_set_N (C : cS) (j : Nat) (t : Int64 × Int32 × Int32) : cN (m_set C j t) = cN C := rfl
theorem m_set_M (C : cS) (j : Nat) (t : Int64 × Int32 × Int32) {k : Nat} (h3 : k ≠ 3) (h4 : k ≠ 4) : cM (m_set C j t) j k = cM C j k := by
  unfold m_set
  rw [cM_sM, cM_sM, cM_sD]
  simp [up2, h3, h4]
theorem m_set_D (C : cS) (j : Nat) (t : Int64 × Int32 × Int32) : cD (m_set C j t) j = t.1 := by
  unfold m_set
  rw [cD_sM, cD_sM, cD_sD]
  simp [vp_updL]
theorem m_set_set (C : cS) (j : Nat) (t u : Int64 × Int32 × Int32) : m_set (m_set C j t) j u = m_set C j u := by
  have h1 : up2 (up2 (up2 (up2 (cM C) j 3 t.2.1) j 4 t.2.2) j 3 u.2.1) j 4 u.2.2 = up2 (up2 (cM C) j 3 u.2.1) j 4 u.2.2 := by
    funext a b
    by_cases h4 : a = j ∧ b = 4
    · simp [up2, h4]
    · by_cases h3 : a = j ∧ b = 3
      · simp [up2, h3]
      · simp [up2, h3, h4]
  have h2 : vp_updL (vp_updL (cD C) j t.1) j u.1 = vp_updL (cD C) j u.1 := by
    funext a
    by_cases h : a = j <;> simp [vp_updL, h]
  unfold m_set sM sD
  simp only [show C.2.2.2.2.2.1 = cM C from rfl, show C.2.2.2.2.2.2.1 = cD C from rfl, h1, h2]
theorem m_set_self (C : cS) (j : Nat) : m_set C j (cD C j, cM C j 3, cM C j 4) = C := by
  have h1 : up2 (up2 (cM C) j 3 (cM C j 3)) j 4 (cM C j 4) = cM C := by
    funext a b
    by_cases h4 : a = j ∧ b = 4
    · obtain ⟨rfl, rfl⟩ := h4
      simp [up2]
    · by_cases h3 : a = j ∧ b = 3
      · obtain ⟨rfl, rfl⟩ := h3
        simp [up2]
      · simp [up2, h3, h4]
  have h2 : vp_updL (cD C) j (cD C j) = cD C := by
    funext a
    by_cases h : a = j
    · subst h
      simp [vp_updL]
    · simp [vp_updL, h]
  unfold m_set sM sD
  simp only [show C.2.2.2.2.2.1 = cM C from rfl, show C.2.2.2.2.2.2.1 = cD C from rfl, h1, h2]
  rfl
theorem m_set_ok {C : cS} {j S : Nat} (hb : bOK C j S) (t : Int64 × Int32 × Int32) : bOK (m_set C j t) j S := ⟨hb.1, hb.2.1, by rw [m_set_M _ _ _ (by decide) (by decide)]; exact hb.2.2.1, hb.2.2.2⟩
theorem m_set_bad (C : cS) (j S : Nat) (t : Int64 × Int32 × Int32) (f s : Int32) : m_bad (m_set C j t) j S f s = m_bad C j S f s := by
  unfold m_bad m_sl m_wg
  rw [m_bk_congr (m_set_E C j t) (m_set_N C j t), m_set_M _ _ _ (by decide) (by decide), m_set_M _ _ _ (by decide) (by decide), m_set_E, m_set_N]
theorem m_set_sl (C : cS) (j : Nat) (t : Int64 × Int32 × Int32) (s : Int32) : m_sl (m_set C j t) j s = m_sl C j s := by
  unfold m_sl
  rw [m_set_M _ _ _ (by decide) (by decide)]
def m_try (C : cS) (j S : Nat) (bg st s : Int32) (i : Nat) (t : Int64 × Int32 × Int32) : Int64 × Int32 × Int32 :=
  if m_bad C j S (bg + st * nI i) s < 0 then t else if t.1 < 0 then (m_bad C j S (bg + st * nI i) s, bg + st * nI i, s) else if t.1 ≤ m_bad C j S (bg + st * nI i) s then t else (m_bad C j S (bg + st * nI i) s, bg + st * nI i, s)
def m_steps (C : cS) (j : Nat) : Nat := if cM C j 2 = 0 then 48 else 36
def m_step (C : cS) (j : Nat) : Int32 := if cM C j 2 = 0 then 1 else cM C j 2
theorem ctM_tryHeights {w : zW} {f : Nat → Option zO} {o : Nat} {C : cS} {n : Nat × Nat} {j S : Nat} (hb : bOK C j S) (hs1 : 1 ≤ S) (t0 : Int64 × Int32 × Int32) (bg s : Int32) : zm_C w mX1_tryHeights [.ref (o + 71 + 2 * j), .int bg, .int s] (cH f o (m_set C j t0), n) none (cH f o (m_set C j (itr (m_try C j S bg (m_step C j) s) (m_steps C j + 1) 0 t0)), n) := by
  have hj := hb.1
  refine zm_C.of (mc := 0) (ms := 0) rfl rfl (by decide) (Nat.le_of_ble_eq_true rfl) ?_
  intro Γ X
  have hst : m_steps C j ≤ 48 := by unfold m_steps; split <;> omega
  have key : ∀ (m i : Nat) (t : Int64 × Int32 × Int32) (x y : Option Value), i + m = m_steps C j + 1 → itr (m_try C j S bg (m_step C j) s) m i t = itr (m_try C j S bg (m_step C j) s) (m_steps C j + 1) 0 t0 → zm_V w Γ 35 [some (.ref (o + 71 + 2 * j)), some (.int bg), some (.int s), some (.int (nI (m_steps C j))), some (.int (m_step C j)), some (.int (nI i)), x, y, none] [] (cH f o (m_set C j t), n) := by
    intro m
    induction m with
    | zero =>
      intro i t x y h1 h4
      refine bkX1_tryHeights_35 X _ _ _ ?_
      simp only [zi_push, zi_ldi, zi_ldl, zi_lda, zi_sti, zi_stl, zi_sta, zi_inc, zi_b, zi_d, zi_u, zi_bl, zi_dl, zi_ul, zi_lcmp, zi_i2l, zi_l2i, zi_if, zi_ic, zi_nul, zi_dup, zi_pop, zi_dup_x1, zi_dup2, zi_gf, zi_pf, zi_ia, zi_is, zi_la, zi_lst, zi_aa, zi_as, zi_len, zi_new, zi_na, zi_mx, zi_mn, zi_sw, zi_swx, zi_cv, zi_cs, zi_ci, zi_obj, zi_iret, zi_lret, zi_zret, zi_aret, zi_vret, zm_s1, zm_s2, zm_k, zm_tk, zm_Rt, zm_is, List.getElem?_cons_zero, List.getElem?_cons_succ, List.set_cons_zero, List.set_cons_succ, List.length_cons, List.length_nil, List.map_cons, List.map_nil, List.sum_cons, List.sum_nil, List.nil_append, List.cons_append, Option.toList, Value.category, reduceIte, Nat.reduceAdd, Nat.reduceLeDiff, Nat.reduceLT, Nat.reduceEqDiff, Nat.reduceMul, and_true, true_and, and_self, Nat.zero_add, Nat.add_zero, Nat.le_refl, true_or, or_true, not_true_eq_false, not_false_eq_true, zm_ft_int, zm_ft_long, zm_ft_ref, zm_ft_null, zm_ft_b0, zm_ft_b1, i_2, i_3, i_4, i_10, io_16, io_64, io_33, io_2, cF_ev, cF_bm, va_rf, cH_0, cH_1, cH_2, cH_3, cH_4, cH_5, uT4, uT5, uT6, uT7, uB1, uB2, uB3, uG, uV]
      refine ⟨fun _ => by rw [← h4]; rfl, fun q => absurd (nI_lt (by omega) (by omega)) q⟩
    | succ m ih =>
      intro i t x y h1 h4
      rw [itr] at h4
      have k85 : m_try C j S bg (m_step C j) s i t = (m_bad C j S (bg + m_step C j * nI i) s, bg + m_step C j * nI i, s) → zm_V w Γ 85 [some (.ref (o + 71 + 2 * j)), some (.int bg), some (.int s), some (.int (nI (m_steps C j))), some (.int (m_step C j)), some (.int (nI i)), some (.int (bg + m_step C j * nI i)), some (.long (m_bad C j S (bg + m_step C j * nI i) s)), none] [] (cH f o (m_set C j t), n) := by
        intro e
        refine bkX1_tryHeights_85 X _ _ _ ?_
        simp only [zi_push, zi_ldi, zi_ldl, zi_lda, zi_sti, zi_stl, zi_sta, zi_inc, zi_b, zi_d, zi_u, zi_bl, zi_dl, zi_ul, zi_lcmp, zi_i2l, zi_l2i, zi_if, zi_ic, zi_nul, zi_dup, zi_pop, zi_dup_x1, zi_dup2, zi_gf, zi_pf, zi_ia, zi_is, zi_la, zi_lst, zi_aa, zi_as, zi_len, zi_new, zi_na, zi_mx, zi_mn, zi_sw, zi_swx, zi_cv, zi_cs, zi_ci, zi_obj, zi_iret, zi_lret, zi_zret, zi_aret, zi_vret, zm_s1, zm_s2, zm_k, zm_tk, zm_Rt, zm_is, List.getElem?_cons_zero, List.getElem?_cons_succ, List.set_cons_zero, List.set_cons_succ, List.length_cons, List.length_nil, List.map_cons, List.map_nil, List.sum_cons, List.sum_nil, List.nil_append, List.cons_append, Option.toList, Value.category, reduceIte, Nat.reduceAdd, Nat.reduceLeDiff, Nat.reduceLT, Nat.reduceEqDiff, Nat.reduceMul, and_true, true_and, and_self, Nat.zero_add, Nat.add_zero, Nat.le_refl, true_or, or_true, not_true_eq_false, not_false_eq_true, zm_ft_int, zm_ft_long, zm_ft_ref, zm_ft_null, zm_ft_b0, zm_ft_b1, i_2, i_3, i_4, i_10, io_16, io_64, io_33, io_2, cF_ev, cF_bm, va_rf, cH_0, cH_1, cH_2, cH_3, cH_4, cH_5, uT4, uT5, uT6, uT7, uB1, uB2, uB3, uG, uV, cH_bm hj, uM1 _ _ _ hj, uM2 _ _ _ hj, uM3 _ _ _ hj, uM4 _ _ _ hj, uM5 _ _ _ hj, uM6 _ _ _ hj, uM7 _ _ _ hj, uD _ _ _ hj, nI_1]
        have hx := ih (i + 1) (m_bad C j S (bg + m_step C j * nI i) s, bg + m_step C j * nI i, s) (some (.int (bg + m_step C j * nI i))) (some (.long (m_bad C j S (bg + m_step C j * nI i) s))) (by omega) (by rw [← h4, e])
        rw [← m_set_set C j t] at hx
        exact hx
      refine bkX1_tryHeights_35 X _ _ _ ?_
      simp only [zi_push, zi_ldi, zi_ldl, zi_lda, zi_sti, zi_stl, zi_sta, zi_inc, zi_b, zi_d, zi_u, zi_bl, zi_dl, zi_ul, zi_lcmp, zi_i2l, zi_l2i, zi_if, zi_ic, zi_nul, zi_dup, zi_pop, zi_dup_x1, zi_dup2, zi_gf, zi_pf, zi_ia, zi_is, zi_la, zi_lst, zi_aa, zi_as, zi_len, zi_new, zi_na, zi_mx, zi_mn, zi_sw, zi_swx, zi_cv, zi_cs, zi_ci, zi_obj, zi_iret, zi_lret, zi_zret, zi_aret, zi_vret, zm_s1, zm_s2, zm_k, zm_tk, zm_Rt, zm_is, List.getElem?_cons_zero, List.getElem?_cons_succ, List.set_cons_zero, List.set_cons_succ, List.length_cons, List.length_nil, List.map_cons, List.map_nil, List.sum_cons, List.sum_nil, List.nil_append, List.cons_append, Option.toList, Value.category, reduceIte, Nat.reduceAdd, Nat.reduceLeDiff, Nat.reduceLT, Nat.reduceEqDiff, Nat.reduceMul, and_true, true_and, and_self, Nat.zero_add, Nat.add_zero, Nat.le_refl, true_or, or_true, not_true_eq_false, not_false_eq_true, zm_ft_int, zm_ft_long, zm_ft_ref, zm_ft_null, zm_ft_b0, zm_ft_b1, i_2, i_3, i_4, i_10, io_16, io_64, io_33, io_2, cF_ev, cF_bm, va_rf, cH_0, cH_1, cH_2, cH_3, cH_4, cH_5, uT4, uT5, uT6, uT7, uB1, uB2, uB3, uG, uV, cH_bm hj]
      refine ⟨fun q => absurd q (nI_nlt (by omega) (by omega)), fun _ => ?_⟩
      refine zm_call.of (ctM_badnessAt (m_set_ok hb t) hs1 _ _) (Nat.le_refl _) (Nat.le_refl _) ?_
      simp only [zi_push, zi_ldi, zi_ldl, zi_lda, zi_sti, zi_stl, zi_sta, zi_inc, zi_b, zi_d, zi_u, zi_bl, zi_dl, zi_ul, zi_lcmp, zi_i2l, zi_l2i, zi_if, zi_ic, zi_nul, zi_dup, zi_pop, zi_dup_x1, zi_dup2, zi_gf, zi_pf, zi_ia, zi_is, zi_la, zi_lst, zi_aa, zi_as, zi_len, zi_new, zi_na, zi_mx, zi_mn, zi_sw, zi_swx, zi_cv, zi_cs, zi_ci, zi_obj, zi_iret, zi_lret, zi_zret, zi_aret, zi_vret, zm_s1, zm_s2, zm_k, zm_tk, zm_Rt, zm_is, List.getElem?_cons_zero, List.getElem?_cons_succ, List.set_cons_zero, List.set_cons_succ, List.length_cons, List.length_nil, List.map_cons, List.map_nil, List.sum_cons, List.sum_nil, List.nil_append, List.cons_append, Option.toList, Value.category, reduceIte, Nat.reduceAdd, Nat.reduceLeDiff, Nat.reduceLT, Nat.reduceEqDiff, Nat.reduceMul, and_true, true_and, and_self, Nat.zero_add, Nat.add_zero, Nat.le_refl, true_or, or_true, not_true_eq_false, not_false_eq_true, zm_ft_int, zm_ft_long, zm_ft_ref, zm_ft_null, zm_ft_b0, zm_ft_b1, i_2, i_3, i_4, i_10, io_16, io_64, io_33, io_2, cF_ev, cF_bm, va_rf, cH_0, cH_1, cH_2, cH_3, cH_4, cH_5, uT4, uT5, uT6, uT7, uB1, uB2, uB3, uG, uV, cH_bm hj, lg_lt, lg_cmp_ge, m_set_bad, nI_1, m_set_D]
      refine ⟨fun q => ?_, fun q => ⟨fun r => ?_, fun r => ⟨fun u => ?_, fun u => ?_⟩⟩⟩
      · exact ih (i + 1) t _ _ (by omega) (by rw [← h4, m_try, if_pos q])
      · exact k85 (by rw [m_try, if_neg q, if_pos r])
      · exact ih (i + 1) t _ _ (by omega) (by rw [← h4, m_try, if_neg q, if_neg r, if_pos u])
      · exact k85 (by rw [m_try, if_neg q, if_neg r, if_neg u])
  have k14 : zm_V w Γ 14 [some (.ref (o + 71 + 2 * j)), some (.int bg), some (.int s), none, none, none, none, none, none] [.int (nI (m_steps C j))] (cH f o (m_set C j t0), n) := by
    refine bkX1_tryHeights_14 X _ _ _ ?_
    simp only [zi_push, zi_ldi, zi_ldl, zi_lda, zi_sti, zi_stl, zi_sta, zi_inc, zi_b, zi_d, zi_u, zi_bl, zi_dl, zi_ul, zi_lcmp, zi_i2l, zi_l2i, zi_if, zi_ic, zi_nul, zi_dup, zi_pop, zi_dup_x1, zi_dup2, zi_gf, zi_pf, zi_ia, zi_is, zi_la, zi_lst, zi_aa, zi_as, zi_len, zi_new, zi_na, zi_mx, zi_mn, zi_sw, zi_swx, zi_cv, zi_cs, zi_ci, zi_obj, zi_iret, zi_lret, zi_zret, zi_aret, zi_vret, zm_s1, zm_s2, zm_k, zm_tk, zm_Rt, zm_is, List.getElem?_cons_zero, List.getElem?_cons_succ, List.set_cons_zero, List.set_cons_succ, List.length_cons, List.length_nil, List.map_cons, List.map_nil, List.sum_cons, List.sum_nil, List.nil_append, List.cons_append, Option.toList, Value.category, reduceIte, Nat.reduceAdd, Nat.reduceLeDiff, Nat.reduceLT, Nat.reduceEqDiff, Nat.reduceMul, and_true, true_and, and_self, Nat.zero_add, Nat.add_zero, Nat.le_refl, true_or, or_true, not_true_eq_false, not_false_eq_true, zm_ft_int, zm_ft_long, zm_ft_ref, zm_ft_null, zm_ft_b0, zm_ft_b1, i_2, i_3, i_4, i_10, io_16, io_64, io_33, io_2, cF_ev, cF_bm, va_rf, cH_0, cH_1, cH_2, cH_3, cH_4, cH_5, uT4, uT5, uT6, uT7, uB1, uB2, uB3, uG, uV, cH_bm hj, m_set_M C j t0 (show 2 ≠ 3 by decide) (show 2 ≠ 4 by decide)]
    refine ⟨fun p => ?_, fun p => ?_⟩
    · have := key (m_steps C j + 1) 0 t0 none none (by omega) rfl
      rw [show m_step C j = 1 by rw [m_step, if_pos p]] at this
      exact this
    · have := key (m_steps C j + 1) 0 t0 none none (by omega) rfl
      rw [show m_step C j = cM C j 2 by rw [m_step, if_neg p]] at this
      exact this
  refine bkX1_tryHeights_0 X [some (.ref (o + 71 + 2 * j)), some (.int bg), some (.int s), none, none, none, none, none, none] [] _ ?_
  simp only [zi_push, zi_ldi, zi_ldl, zi_lda, zi_sti, zi_stl, zi_sta, zi_inc, zi_b, zi_d, zi_u, zi_bl, zi_dl, zi_ul, zi_lcmp, zi_i2l, zi_l2i, zi_if, zi_ic, zi_nul, zi_dup, zi_pop, zi_dup_x1, zi_dup2, zi_gf, zi_pf, zi_ia, zi_is, zi_la, zi_lst, zi_aa, zi_as, zi_len, zi_new, zi_na, zi_mx, zi_mn, zi_sw, zi_swx, zi_cv, zi_cs, zi_ci, zi_obj, zi_iret, zi_lret, zi_zret, zi_aret, zi_vret, zm_s1, zm_s2, zm_k, zm_tk, zm_Rt, zm_is, List.getElem?_cons_zero, List.getElem?_cons_succ, List.set_cons_zero, List.set_cons_succ, List.length_cons, List.length_nil, List.map_cons, List.map_nil, List.sum_cons, List.sum_nil, List.nil_append, List.cons_append, Option.toList, Value.category, reduceIte, Nat.reduceAdd, Nat.reduceLeDiff, Nat.reduceLT, Nat.reduceEqDiff, Nat.reduceMul, and_true, true_and, and_self, Nat.zero_add, Nat.add_zero, Nat.le_refl, true_or, or_true, not_true_eq_false, not_false_eq_true, zm_ft_int, zm_ft_long, zm_ft_ref, zm_ft_null, zm_ft_b0, zm_ft_b1, i_2, i_3, i_4, i_10, io_16, io_64, io_33, io_2, cF_ev, cF_bm, va_rf, cH_0, cH_1, cH_2, cH_3, cH_4, cH_5, uT4, uT5, uT6, uT7, uB1, uB2, uB3, uG, uV, cH_bm hj, m_set_M C j t0 (show 2 ≠ 3 by decide) (show 2 ≠ 4 by decide)]
  refine ⟨fun p => ?_, fun p => ?_⟩
  · have := k14
    rw [show m_steps C j = 48 by rw [m_steps, if_pos p]] at this
    exact this
  · have := k14
    rw [show m_steps C j = 36 by rw [m_steps, if_neg p]] at this
    exact this
def m_lh0 (C : cS) (j k : Nat) : Int32 := cE C (cN C j k) 13 + cM C j 2 * cE C (cN C j k) 15
def m_lhF (C : cS) (j k : Nat) (a : Int32) : Int32 := if cM C j 2 = 1 then (if a < m_lh0 C j k then m_lh0 C j k else a) else (if m_lh0 C j k < a then m_lh0 C j k else a)
theorem ctM_levelHeight {w : zW} {f : Nat → Option zO} {o : Nat} {C : cS} {n : Nat × Nat} {j s : Nat} (hb : bOK C j s) (hs1 : 1 ≤ s) : zm_C w mX1_levelHeight [.ref (o + 71 + 2 * j)] (cH f o C, n) (some (.int (itr (m_lhF C j) (s - 1) 1 (m_lh0 C j 0)))) (cH f o C, n) := by
  obtain ⟨hj, hs, hM, hN⟩ := hb
  refine zm_C.of (mc := 0) (ms := 0) rfl rfl (by decide) (Nat.le_of_ble_eq_true rfl) ?_
  intro Γ X
  have h0 : cN C j 0 ≤ 64 := hN 0 (by omega)
  have key : ∀ (m i : Nat) (a : Int32) (x : Option Value), i + m = s → itr (m_lhF C j) m i a = itr (m_lhF C j) (s - 1) 1 (m_lh0 C j 0) → zm_V w Γ 27 [some (.ref (o + 71 + 2 * j)), some (.int a), some (.int (nI i)), x] [] (cH f o C, n) := by
    intro m
    induction m with
    | zero =>
      intro i a x h1 h4
      refine bkX1_levelHeight_27 X _ _ _ ?_
      simp only [zi_push, zi_ldi, zi_ldl, zi_lda, zi_sti, zi_stl, zi_sta, zi_inc, zi_b, zi_d, zi_u, zi_bl, zi_dl, zi_ul, zi_lcmp, zi_i2l, zi_l2i, zi_if, zi_ic, zi_nul, zi_dup, zi_pop, zi_dup_x1, zi_dup2, zi_gf, zi_pf, zi_ia, zi_is, zi_la, zi_lst, zi_aa, zi_as, zi_len, zi_new, zi_na, zi_mx, zi_mn, zi_sw, zi_swx, zi_cv, zi_cs, zi_ci, zi_obj, zi_iret, zi_lret, zi_zret, zi_aret, zi_vret, zm_s1, zm_s2, zm_k, zm_tk, zm_Rt, zm_is, List.getElem?_cons_zero, List.getElem?_cons_succ, List.set_cons_zero, List.set_cons_succ, List.length_cons, List.length_nil, List.map_cons, List.map_nil, List.sum_cons, List.sum_nil, List.nil_append, List.cons_append, Option.toList, Value.category, reduceIte, Nat.reduceAdd, Nat.reduceLeDiff, Nat.reduceLT, Nat.reduceEqDiff, Nat.reduceMul, and_true, true_and, and_self, Nat.zero_add, Nat.add_zero, Nat.le_refl, true_or, or_true, not_true_eq_false, not_false_eq_true, zm_ft_int, zm_ft_long, zm_ft_ref, zm_ft_null, zm_ft_b0, zm_ft_b1, i_2, i_3, i_4, i_10, io_16, io_64, io_33, io_2, cF_ev, cF_bm, va_rf, cH_0, cH_1, cH_2, cH_3, cH_4, cH_5, uT4, uT5, uT6, uT7, uB1, uB2, uB3, uG, uV, cH_bm hj, hM]
      refine ⟨fun _ => by rw [← h4]; rfl, fun q => absurd (nI_le (by omega) (by omega)) q⟩
    | succ m ih =>
      intro i a x h1 h4
      have hi : cN C j i ≤ 64 := hN i (by omega)
      rw [itr] at h4
      refine bkX1_levelHeight_27 X _ _ _ ?_
      simp only [zi_push, zi_ldi, zi_ldl, zi_lda, zi_sti, zi_stl, zi_sta, zi_inc, zi_b, zi_d, zi_u, zi_bl, zi_dl, zi_ul, zi_lcmp, zi_i2l, zi_l2i, zi_if, zi_ic, zi_nul, zi_dup, zi_pop, zi_dup_x1, zi_dup2, zi_gf, zi_pf, zi_ia, zi_is, zi_la, zi_lst, zi_aa, zi_as, zi_len, zi_new, zi_na, zi_mx, zi_mn, zi_sw, zi_swx, zi_cv, zi_cs, zi_ci, zi_obj, zi_iret, zi_lret, zi_zret, zi_aret, zi_vret, zm_s1, zm_s2, zm_k, zm_tk, zm_Rt, zm_is, List.getElem?_cons_zero, List.getElem?_cons_succ, List.set_cons_zero, List.set_cons_succ, List.length_cons, List.length_nil, List.map_cons, List.map_nil, List.sum_cons, List.sum_nil, List.nil_append, List.cons_append, Option.toList, Value.category, reduceIte, Nat.reduceAdd, Nat.reduceLeDiff, Nat.reduceLT, Nat.reduceEqDiff, Nat.reduceMul, and_true, true_and, and_self, Nat.zero_add, Nat.add_zero, Nat.le_refl, true_or, or_true, not_true_eq_false, not_false_eq_true, zm_ft_int, zm_ft_long, zm_ft_ref, zm_ft_null, zm_ft_b0, zm_ft_b1, i_2, i_3, i_4, i_10, io_16, io_64, io_33, io_2, cF_ev, cF_bm, va_rf, cH_0, cH_1, cH_2, cH_3, cH_4, cH_5, uT4, uT5, uT6, uT7, uB1, uB2, uB3, uG, uV, cH_bm hj, cH_nt hj, hM, nI_clamp (show i < 2 ^ 31 by omega), cF_nt_at (show i < 16 by omega), cH_ev hi, nI_1]
      refine ⟨fun q => absurd q (nI_ge (by omega) (by omega)), fun _ => ⟨vp_in_nI (by omega) (by decide), vp_in_nI (by omega) (by decide), fun p => ?_, fun p => ?_⟩⟩
      · refine ih (i + 1) _ _ (by omega) ?_
        rw [← h4, m_lhF, if_pos p]
        rfl
      · refine ih (i + 1) _ _ (by omega) ?_
        rw [← h4, m_lhF, if_neg p]
        rfl
  refine bkX1_levelHeight_0 X [some (.ref (o + 71 + 2 * j)), none, none, none] [] _ ?_
  simp only [zi_push, zi_ldi, zi_ldl, zi_lda, zi_sti, zi_stl, zi_sta, zi_inc, zi_b, zi_d, zi_u, zi_bl, zi_dl, zi_ul, zi_lcmp, zi_i2l, zi_l2i, zi_if, zi_ic, zi_nul, zi_dup, zi_pop, zi_dup_x1, zi_dup2, zi_gf, zi_pf, zi_ia, zi_is, zi_la, zi_lst, zi_aa, zi_as, zi_len, zi_new, zi_na, zi_mx, zi_mn, zi_sw, zi_swx, zi_cv, zi_cs, zi_ci, zi_obj, zi_iret, zi_lret, zi_zret, zi_aret, zi_vret, zm_s1, zm_s2, zm_k, zm_tk, zm_Rt, zm_is, List.getElem?_cons_zero, List.getElem?_cons_succ, List.set_cons_zero, List.set_cons_succ, List.length_cons, List.length_nil, List.map_cons, List.map_nil, List.sum_cons, List.sum_nil, List.nil_append, List.cons_append, Option.toList, Value.category, reduceIte, Nat.reduceAdd, Nat.reduceLeDiff, Nat.reduceLT, Nat.reduceEqDiff, Nat.reduceMul, and_true, true_and, and_self, Nat.zero_add, Nat.add_zero, Nat.le_refl, true_or, or_true, not_true_eq_false, not_false_eq_true, zm_ft_int, zm_ft_long, zm_ft_ref, zm_ft_null, zm_ft_b0, zm_ft_b1, i_2, i_3, i_4, i_10, io_16, io_64, io_33, io_2, cF_ev, cF_bm, va_rf, cH_0, cH_1, cH_2, cH_3, cH_4, cH_5, uT4, uT5, uT6, uT7, uB1, uB2, uB3, uG, uV, cH_bm hj, cH_nt hj, cF_nt_at (show 0 < 16 by omega), cH_ev h0, sb_cl0, vp0_16]
  exact key (s - 1) 1 _ none (by omega) rfl
def m_bg (C : cS) (j S : Nat) : Int32 := if cM C j 2 = 0 then -48 else itr (m_lhF C j) (S - 1) 1 (m_lh0 C j 0) - 24 * cM C j 2
def m_last (C : cS) (j : Nat) : Nat := if cM C j 7 = 0 then 12 else 0
def m_sOf (i : Nat) : Int32 := if i % 2 = 1 then nI ((i + 1) / 2) else -nI i / 2
def m_fiF (C : cS) (j S : Nat) (i : Nat) (t : Int64 × Int32 × Int32) : Int64 × Int32 × Int32 :=
  if t.1 < 0 then itr (m_try C j S (m_bg C j S) (m_step C j) (m_sOf i)) (m_steps C j + 1) 0 t else if t.1 ≤ m_sl C j (m_sOf i) then t else itr (m_try C j S (m_bg C j S) (m_step C j) (m_sOf i)) (m_steps C j + 1) 0 t
def m_fi (C : cS) (j S : Nat) : Int64 × Int32 × Int32 := itr (m_fiF C j S) (m_last C j + 1) 0 (-1, cM C j 3, cM C j 4)
theorem ctM_findPlace {w : zW} {f : Nat → Option zO} {o : Nat} {C : cS} {n : Nat × Nat} {j S : Nat} (hb : bOK C j S) (hs1 : 1 ≤ S) : zm_C w mX1_findPlace [.ref (o + 71 + 2 * j)] (cH f o C, n) (some (.int (if (m_fi C j S).1 < 0 then 0 else 1))) (cH f o (m_set C j (m_fi C j S)), n) := by
  have hj := hb.1
  refine zm_C.of (mc := 0) (ms := 0) rfl rfl (by decide) (Nat.le_of_ble_eq_true rfl) ?_
  intro Γ X
  have hla : m_last C j ≤ 12 := by unfold m_last; split <;> omega
  have k48 : ∀ (m i : Nat) (t : Int64 × Int32 × Int32) (x : Option Value), i + m = m_last C j + 1 → itr (m_fiF C j S) m i t = m_fi C j S → zm_V w Γ 48 [some (.ref (o + 71 + 2 * j)), some (.int (m_bg C j S)), some (.int (nI (m_last C j))), some (.int (nI i)), x] [] (cH f o (m_set C j t), n) := by
    intro m
    induction m with
    | zero =>
      intro i t x h1 h4
      refine bkX1_findPlace_48 X _ _ _ ?_
      simp only [zi_push, zi_ldi, zi_ldl, zi_lda, zi_sti, zi_stl, zi_sta, zi_inc, zi_b, zi_d, zi_u, zi_bl, zi_dl, zi_ul, zi_lcmp, zi_i2l, zi_l2i, zi_if, zi_ic, zi_nul, zi_dup, zi_pop, zi_dup_x1, zi_dup2, zi_gf, zi_pf, zi_ia, zi_is, zi_la, zi_lst, zi_aa, zi_as, zi_len, zi_new, zi_na, zi_mx, zi_mn, zi_sw, zi_swx, zi_cv, zi_cs, zi_ci, zi_obj, zi_iret, zi_lret, zi_zret, zi_aret, zi_vret, zm_s1, zm_s2, zm_k, zm_tk, zm_Rt, zm_is, List.getElem?_cons_zero, List.getElem?_cons_succ, List.set_cons_zero, List.set_cons_succ, List.length_cons, List.length_nil, List.map_cons, List.map_nil, List.sum_cons, List.sum_nil, List.nil_append, List.cons_append, Option.toList, Value.category, reduceIte, Nat.reduceAdd, Nat.reduceLeDiff, Nat.reduceLT, Nat.reduceEqDiff, Nat.reduceMul, and_true, true_and, and_self, Nat.zero_add, Nat.add_zero, Nat.le_refl, true_or, or_true, not_true_eq_false, not_false_eq_true, zm_ft_int, zm_ft_long, zm_ft_ref, zm_ft_null, zm_ft_b0, zm_ft_b1, i_2, i_3, i_4, i_10, io_16, io_64, io_33, io_2, cF_ev, cF_bm, va_rf, cH_0, cH_1, cH_2, cH_3, cH_4, cH_5, uT4, uT5, uT6, uT7, uB1, uB2, uB3, uG, uV, cH_bm hj, lg_lt, m_set_D]
      refine ⟨fun _ => ?_, fun q => absurd (nI_lt (by omega) (by omega)) q⟩
      rw [← h4]
      refine ⟨fun q => ⟨by rw [if_pos (show (itr (m_fiF C j S) 0 i t).1 < 0 from q)], rfl⟩, fun q => ⟨by rw [if_neg (show ¬ (itr (m_fiF C j S) 0 i t).1 < 0 from q)], rfl⟩⟩
    | succ m ih =>
      intro i t x h1 h4
      rw [itr] at h4
      have k97 : m_fiF C j S i t = itr (m_try C j S (m_bg C j S) (m_step C j) (m_sOf i)) (m_steps C j + 1) 0 t → zm_V w Γ 97 [some (.ref (o + 71 + 2 * j)), some (.int (m_bg C j S)), some (.int (nI (m_last C j))), some (.int (nI i)), some (.int (m_sOf i))] [] (cH f o (m_set C j t), n) := by
        intro e
        refine bkX1_findPlace_97 X _ _ _ ?_
        simp only [zi_push, zi_ldi, zi_ldl, zi_lda, zi_sti, zi_stl, zi_sta, zi_inc, zi_b, zi_d, zi_u, zi_bl, zi_dl, zi_ul, zi_lcmp, zi_i2l, zi_l2i, zi_if, zi_ic, zi_nul, zi_dup, zi_pop, zi_dup_x1, zi_dup2, zi_gf, zi_pf, zi_ia, zi_is, zi_la, zi_lst, zi_aa, zi_as, zi_len, zi_new, zi_na, zi_mx, zi_mn, zi_sw, zi_swx, zi_cv, zi_cs, zi_ci, zi_obj, zi_iret, zi_lret, zi_zret, zi_aret, zi_vret, zm_s1, zm_s2, zm_k, zm_tk, zm_Rt, zm_is, List.getElem?_cons_zero, List.getElem?_cons_succ, List.set_cons_zero, List.set_cons_succ, List.length_cons, List.length_nil, List.map_cons, List.map_nil, List.sum_cons, List.sum_nil, List.nil_append, List.cons_append, Option.toList, Value.category, reduceIte, Nat.reduceAdd, Nat.reduceLeDiff, Nat.reduceLT, Nat.reduceEqDiff, Nat.reduceMul, and_true, true_and, and_self, Nat.zero_add, Nat.add_zero, Nat.le_refl, true_or, or_true, not_true_eq_false, not_false_eq_true, zm_ft_int, zm_ft_long, zm_ft_ref, zm_ft_null, zm_ft_b0, zm_ft_b1, i_2, i_3, i_4, i_10, io_16, io_64, io_33, io_2, cF_ev, cF_bm, va_rf, cH_0, cH_1, cH_2, cH_3, cH_4, cH_5, uT4, uT5, uT6, uT7, uB1, uB2, uB3, uG, uV, cH_bm hj]
        refine zm_call.of (ctM_tryHeights hb hs1 t _ _) (Nat.le_refl _) (Nat.le_refl _) ?_
        simp only [zi_push, zi_ldi, zi_ldl, zi_lda, zi_sti, zi_stl, zi_sta, zi_inc, zi_b, zi_d, zi_u, zi_bl, zi_dl, zi_ul, zi_lcmp, zi_i2l, zi_l2i, zi_if, zi_ic, zi_nul, zi_dup, zi_pop, zi_dup_x1, zi_dup2, zi_gf, zi_pf, zi_ia, zi_is, zi_la, zi_lst, zi_aa, zi_as, zi_len, zi_new, zi_na, zi_mx, zi_mn, zi_sw, zi_swx, zi_cv, zi_cs, zi_ci, zi_obj, zi_iret, zi_lret, zi_zret, zi_aret, zi_vret, zm_s1, zm_s2, zm_k, zm_tk, zm_Rt, zm_is, List.getElem?_cons_zero, List.getElem?_cons_succ, List.set_cons_zero, List.set_cons_succ, List.length_cons, List.length_nil, List.map_cons, List.map_nil, List.sum_cons, List.sum_nil, List.nil_append, List.cons_append, Option.toList, Value.category, reduceIte, Nat.reduceAdd, Nat.reduceLeDiff, Nat.reduceLT, Nat.reduceEqDiff, Nat.reduceMul, and_true, true_and, and_self, Nat.zero_add, Nat.add_zero, Nat.le_refl, true_or, or_true, not_true_eq_false, not_false_eq_true, zm_ft_int, zm_ft_long, zm_ft_ref, zm_ft_null, zm_ft_b0, zm_ft_b1, i_2, i_3, i_4, i_10, io_16, io_64, io_33, io_2, cF_ev, cF_bm, va_rf, cH_0, cH_1, cH_2, cH_3, cH_4, cH_5, uT4, uT5, uT6, uT7, uB1, uB2, uB3, uG, uV, nI_1]
        exact ih (i + 1) _ _ (by omega) (by rw [← h4, e])
      have k72 : zm_V w Γ 72 [some (.ref (o + 71 + 2 * j)), some (.int (m_bg C j S)), some (.int (nI (m_last C j))), some (.int (nI i)), x] [.int (m_sOf i)] (cH f o (m_set C j t), n) := by
        refine bkX1_findPlace_72 X _ _ _ ?_
        simp only [zi_push, zi_ldi, zi_ldl, zi_lda, zi_sti, zi_stl, zi_sta, zi_inc, zi_b, zi_d, zi_u, zi_bl, zi_dl, zi_ul, zi_lcmp, zi_i2l, zi_l2i, zi_if, zi_ic, zi_nul, zi_dup, zi_pop, zi_dup_x1, zi_dup2, zi_gf, zi_pf, zi_ia, zi_is, zi_la, zi_lst, zi_aa, zi_as, zi_len, zi_new, zi_na, zi_mx, zi_mn, zi_sw, zi_swx, zi_cv, zi_cs, zi_ci, zi_obj, zi_iret, zi_lret, zi_zret, zi_aret, zi_vret, zm_s1, zm_s2, zm_k, zm_tk, zm_Rt, zm_is, List.getElem?_cons_zero, List.getElem?_cons_succ, List.set_cons_zero, List.set_cons_succ, List.length_cons, List.length_nil, List.map_cons, List.map_nil, List.sum_cons, List.sum_nil, List.nil_append, List.cons_append, Option.toList, Value.category, reduceIte, Nat.reduceAdd, Nat.reduceLeDiff, Nat.reduceLT, Nat.reduceEqDiff, Nat.reduceMul, and_true, true_and, and_self, Nat.zero_add, Nat.add_zero, Nat.le_refl, true_or, or_true, not_true_eq_false, not_false_eq_true, zm_ft_int, zm_ft_long, zm_ft_ref, zm_ft_null, zm_ft_b0, zm_ft_b1, i_2, i_3, i_4, i_10, io_16, io_64, io_33, io_2, cF_ev, cF_bm, va_rf, cH_0, cH_1, cH_2, cH_3, cH_4, cH_5, uT4, uT5, uT6, uT7, uB1, uB2, uB3, uG, uV, cH_bm hj, lg_lt, m_set_D]
        refine ⟨fun q => k97 (by rw [m_fiF, if_pos q]), fun q => ?_⟩
        refine zm_call.of (ctM_slantBadness hj _) (Nat.le_refl _) (Nat.le_refl _) ?_
        simp only [zi_push, zi_ldi, zi_ldl, zi_lda, zi_sti, zi_stl, zi_sta, zi_inc, zi_b, zi_d, zi_u, zi_bl, zi_dl, zi_ul, zi_lcmp, zi_i2l, zi_l2i, zi_if, zi_ic, zi_nul, zi_dup, zi_pop, zi_dup_x1, zi_dup2, zi_gf, zi_pf, zi_ia, zi_is, zi_la, zi_lst, zi_aa, zi_as, zi_len, zi_new, zi_na, zi_mx, zi_mn, zi_sw, zi_swx, zi_cv, zi_cs, zi_ci, zi_obj, zi_iret, zi_lret, zi_zret, zi_aret, zi_vret, zm_s1, zm_s2, zm_k, zm_tk, zm_Rt, zm_is, List.getElem?_cons_zero, List.getElem?_cons_succ, List.set_cons_zero, List.set_cons_succ, List.length_cons, List.length_nil, List.map_cons, List.map_nil, List.sum_cons, List.sum_nil, List.nil_append, List.cons_append, Option.toList, Value.category, reduceIte, Nat.reduceAdd, Nat.reduceLeDiff, Nat.reduceLT, Nat.reduceEqDiff, Nat.reduceMul, and_true, true_and, and_self, Nat.zero_add, Nat.add_zero, Nat.le_refl, true_or, or_true, not_true_eq_false, not_false_eq_true, zm_ft_int, zm_ft_long, zm_ft_ref, zm_ft_null, zm_ft_b0, zm_ft_b1, i_2, i_3, i_4, i_10, io_16, io_64, io_33, io_2, cF_ev, cF_bm, va_rf, cH_0, cH_1, cH_2, cH_3, cH_4, cH_5, uT4, uT5, uT6, uT7, uB1, uB2, uB3, uG, uV, cH_bm hj, lg_cmp_ge, m_set_D, m_set_sl, nI_1]
        exact ⟨fun r => ih (i + 1) t _ (by omega) (by rw [← h4, m_fiF, if_neg q, if_pos r]), fun r => k97 (by rw [m_fiF, if_neg q, if_neg r])⟩
      have e2 : nI i - nI i / 2 * 2 = nI (i % 2) := pk_rem (d := 2) (by omega) (by decide) (by decide)
      have e1 : nI (i % 2) = 1 ↔ i % 2 = 1 := nI_eq (b := 1) (by omega) (by decide)
      refine bkX1_findPlace_48 X _ _ _ ?_
      simp only [zi_push, zi_ldi, zi_ldl, zi_lda, zi_sti, zi_stl, zi_sta, zi_inc, zi_b, zi_d, zi_u, zi_bl, zi_dl, zi_ul, zi_lcmp, zi_i2l, zi_l2i, zi_if, zi_ic, zi_nul, zi_dup, zi_pop, zi_dup_x1, zi_dup2, zi_gf, zi_pf, zi_ia, zi_is, zi_la, zi_lst, zi_aa, zi_as, zi_len, zi_new, zi_na, zi_mx, zi_mn, zi_sw, zi_swx, zi_cv, zi_cs, zi_ci, zi_obj, zi_iret, zi_lret, zi_zret, zi_aret, zi_vret, zm_s1, zm_s2, zm_k, zm_tk, zm_Rt, zm_is, List.getElem?_cons_zero, List.getElem?_cons_succ, List.set_cons_zero, List.set_cons_succ, List.length_cons, List.length_nil, List.map_cons, List.map_nil, List.sum_cons, List.sum_nil, List.nil_append, List.cons_append, Option.toList, Value.category, reduceIte, Nat.reduceAdd, Nat.reduceLeDiff, Nat.reduceLT, Nat.reduceEqDiff, Nat.reduceMul, and_true, true_and, and_self, Nat.zero_add, Nat.add_zero, Nat.le_refl, true_or, or_true, not_true_eq_false, not_false_eq_true, zm_ft_int, zm_ft_long, zm_ft_ref, zm_ft_null, zm_ft_b0, zm_ft_b1, i_2, i_3, i_4, i_10, io_16, io_64, io_33, io_2, cF_ev, cF_bm, va_rf, cH_0, cH_1, cH_2, cH_3, cH_4, cH_5, uT4, uT5, uT6, uT7, uB1, uB2, uB3, uG, uV, cH_bm hj, e2, e1]
      refine ⟨fun q => absurd q (nI_nlt (by omega) (by omega)), fun _ => ⟨fun p => ?_, fun p => ?_⟩⟩
      · have := k72
        rw [show m_sOf i = (nI i + 1) / 2 by rw [m_sOf, if_pos p, nI_1]; exact (pk_div (d := 2) (by omega) (by decide) (by decide)).symm] at this
        exact this
      · have := k72
        rw [show m_sOf i = -nI i / 2 by rw [m_sOf, if_neg p]] at this
        exact this
  have k24 : zm_V w Γ 24 [some (.ref (o + 71 + 2 * j)), none, none, none, none] [.int (m_bg C j S)] (cH f o C, n) := by
    have hx := k48 (m_last C j + 1) 0 (-1, cM C j 3, cM C j 4) none (by omega) rfl
    have hs : m_set C j (-1, cM C j 3, cM C j 4) = sD C j (-1) := by
      have := m_set_self (sD C j (-1)) j
      rw [← this]
      have h2 : vp_updL (cD C) j (-1) j = -1 := by simp [vp_updL]
      rw [cD_sD, h2]
      have h3 : m_set (sD C j (-1)) j (-1, cM (sD C j (-1)) j 3, cM (sD C j (-1)) j 4) = m_set C j (-1, cM C j 3, cM C j 4) := by
        have h4 : vp_updL (vp_updL (cD C) j (-1)) j (-1) = vp_updL (cD C) j (-1) := by
          funext a
          by_cases h : a = j <;> simp [vp_updL, h]
        unfold m_set sM sD
        simp only [show C.2.2.2.2.2.2.1 = cD C from rfl, h4]
        rfl
      exact h3.symm
    rw [hs] at hx
    refine bkX1_findPlace_24 X _ _ _ ?_
    simp only [zi_push, zi_ldi, zi_ldl, zi_lda, zi_sti, zi_stl, zi_sta, zi_inc, zi_b, zi_d, zi_u, zi_bl, zi_dl, zi_ul, zi_lcmp, zi_i2l, zi_l2i, zi_if, zi_ic, zi_nul, zi_dup, zi_pop, zi_dup_x1, zi_dup2, zi_gf, zi_pf, zi_ia, zi_is, zi_la, zi_lst, zi_aa, zi_as, zi_len, zi_new, zi_na, zi_mx, zi_mn, zi_sw, zi_swx, zi_cv, zi_cs, zi_ci, zi_obj, zi_iret, zi_lret, zi_zret, zi_aret, zi_vret, zm_s1, zm_s2, zm_k, zm_tk, zm_Rt, zm_is, List.getElem?_cons_zero, List.getElem?_cons_succ, List.set_cons_zero, List.set_cons_succ, List.length_cons, List.length_nil, List.map_cons, List.map_nil, List.sum_cons, List.sum_nil, List.nil_append, List.cons_append, Option.toList, Value.category, reduceIte, Nat.reduceAdd, Nat.reduceLeDiff, Nat.reduceLT, Nat.reduceEqDiff, Nat.reduceMul, and_true, true_and, and_self, Nat.zero_add, Nat.add_zero, Nat.le_refl, true_or, or_true, not_true_eq_false, not_false_eq_true, zm_ft_int, zm_ft_long, zm_ft_ref, zm_ft_null, zm_ft_b0, zm_ft_b1, i_2, i_3, i_4, i_10, io_16, io_64, io_33, io_2, cF_ev, cF_bm, va_rf, cH_0, cH_1, cH_2, cH_3, cH_4, cH_5, uT4, uT5, uT6, uT7, uB1, uB2, uB3, uG, uV, cH_bm hj, uM1 _ _ _ hj, uM2 _ _ _ hj, uM3 _ _ _ hj, uM4 _ _ _ hj, uM5 _ _ _ hj, uM6 _ _ _ hj, uM7 _ _ _ hj, uD _ _ _ hj]
    refine ⟨fun p => ?_, fun p => ?_⟩
    · rw [show m_last C j = 12 by rw [m_last, if_pos p]] at hx
      exact hx
    · rw [show m_last C j = 0 by rw [m_last, if_neg p]] at hx
      exact hx
  refine bkX1_findPlace_0 X [some (.ref (o + 71 + 2 * j)), none, none, none, none] [] _ ?_
  simp only [zi_push, zi_ldi, zi_ldl, zi_lda, zi_sti, zi_stl, zi_sta, zi_inc, zi_b, zi_d, zi_u, zi_bl, zi_dl, zi_ul, zi_lcmp, zi_i2l, zi_l2i, zi_if, zi_ic, zi_nul, zi_dup, zi_pop, zi_dup_x1, zi_dup2, zi_gf, zi_pf, zi_ia, zi_is, zi_la, zi_lst, zi_aa, zi_as, zi_len, zi_new, zi_na, zi_mx, zi_mn, zi_sw, zi_swx, zi_cv, zi_cs, zi_ci, zi_obj, zi_iret, zi_lret, zi_zret, zi_aret, zi_vret, zm_s1, zm_s2, zm_k, zm_tk, zm_Rt, zm_is, List.getElem?_cons_zero, List.getElem?_cons_succ, List.set_cons_zero, List.set_cons_succ, List.length_cons, List.length_nil, List.map_cons, List.map_nil, List.sum_cons, List.sum_nil, List.nil_append, List.cons_append, Option.toList, Value.category, reduceIte, Nat.reduceAdd, Nat.reduceLeDiff, Nat.reduceLT, Nat.reduceEqDiff, Nat.reduceMul, and_true, true_and, and_self, Nat.zero_add, Nat.add_zero, Nat.le_refl, true_or, or_true, not_true_eq_false, not_false_eq_true, zm_ft_int, zm_ft_long, zm_ft_ref, zm_ft_null, zm_ft_b0, zm_ft_b1, i_2, i_3, i_4, i_10, io_16, io_64, io_33, io_2, cF_ev, cF_bm, va_rf, cH_0, cH_1, cH_2, cH_3, cH_4, cH_5, uT4, uT5, uT6, uT7, uB1, uB2, uB3, uG, uV, cH_bm hj]
  refine ⟨fun p => ?_, fun p => ?_⟩
  · have := k24
    rw [show m_bg C j S = -48 by rw [m_bg, if_pos p]] at this
    exact this
  · refine zm_call.of (ctM_levelHeight hb hs1) (Nat.le_refl _) (Nat.le_refl _) ?_
    simp only [zi_push, zi_ldi, zi_ldl, zi_lda, zi_sti, zi_stl, zi_sta, zi_inc, zi_b, zi_d, zi_u, zi_bl, zi_dl, zi_ul, zi_lcmp, zi_i2l, zi_l2i, zi_if, zi_ic, zi_nul, zi_dup, zi_pop, zi_dup_x1, zi_dup2, zi_gf, zi_pf, zi_ia, zi_is, zi_la, zi_lst, zi_aa, zi_as, zi_len, zi_new, zi_na, zi_mx, zi_mn, zi_sw, zi_swx, zi_cv, zi_cs, zi_ci, zi_obj, zi_iret, zi_lret, zi_zret, zi_aret, zi_vret, zm_s1, zm_s2, zm_k, zm_tk, zm_Rt, zm_is, List.getElem?_cons_zero, List.getElem?_cons_succ, List.set_cons_zero, List.set_cons_succ, List.length_cons, List.length_nil, List.map_cons, List.map_nil, List.sum_cons, List.sum_nil, List.nil_append, List.cons_append, Option.toList, Value.category, reduceIte, Nat.reduceAdd, Nat.reduceLeDiff, Nat.reduceLT, Nat.reduceEqDiff, Nat.reduceMul, and_true, true_and, and_self, Nat.zero_add, Nat.add_zero, Nat.le_refl, true_or, or_true, not_true_eq_false, not_false_eq_true, zm_ft_int, zm_ft_long, zm_ft_ref, zm_ft_null, zm_ft_b0, zm_ft_b1, i_2, i_3, i_4, i_10, io_16, io_64, io_33, io_2, cF_ev, cF_bm, va_rf, cH_0, cH_1, cH_2, cH_3, cH_4, cH_5, uT4, uT5, uT6, uT7, uB1, uB2, uB3, uG, uV, cH_bm hj]
    have := k24
    rw [show m_bg C j S = itr (m_lhF C j) (S - 1) 1 (m_lh0 C j 0) - 24 * cM C j 2 by rw [m_bg, if_neg p]] at this
    exact this
