theorem itr_fix {α : Type} (F : Nat → α → α) (a : α) (h : ∀ k, F k a = a) : ∀ (m i : Nat), itr F m i a = a
  | 0, _ => rfl
  | m + 1, i => by rw [itr, h, itr_fix F a h m (i + 1)]
section
variable {w : zW} {f : Nat → Option zO} {q : Nat} {M : mS} {n : Nat × Nat} {C : cS} {b ec e : Nat}
theorem near_in (h : eO2 C e) (hn : ¬ cE C e 5 = 0) (d : Int32) : inR (e_near C e d) (-72) 24 := by
  obtain ⟨a, a1, a2, a3⟩ := (h.2.2.2 hn).1
  obtain ⟨c, c1, c2, c3⟩ := (h.2.2.2 hn).2
  obtain ⟨s, s1, s2, s3⟩ := h.2.2.1
  unfold e_near
  rw [a3, c3, s3]
  split
  · exact ⟨2 * c + -48 * s, by omega, by omega, by
      rw [show (2 : Int32) = zI 2 from rfl, show (-48 : Int32) = zI (-48) from rfl, zI_mul, zI_mul, zI_add]⟩
  · exact ⟨2 * a + -48 * s, by omega, by omega, by
      rw [show (2 : Int32) = zI 2 from rfl, show (-48 : Int32) = zI (-48) from rfl, zI_mul, zI_mul, zI_add]⟩
theorem more_in (h : inR (cE C e 2) 0 6) : inR (e_more C e) 0 6 := by
  obtain ⟨k, h1, h2, h3⟩ := lev_in C e h
  rw [← more_eq C e h, h3, show (2 : Int32) = zI 2 from rfl, show (3 : Int32) = zI 3 from rfl, show (0 : Int32) = zI 0 from rfl, zI_sub]
  split
  · exact ⟨0, by omega, by omega, rfl⟩
  · rename_i p
    rw [zI_le (by omega) (by omega) (by omega) (by omega)] at p
    exact ⟨3 * (k - 2), by omega, by omega, zI_mul _ _⟩
theorem aim_near (he : eR C M ec) (hb : bN C M b ec) (ha : bA C M b) {k : Nat} (hk : k < csz C b) : inR (cE C (cN C b k) 13) (-72) 24 := by
  obtain ⟨g1, g2, g3, g4⟩ := hb.2.2.2 k hk
  rw [(ha.2.2 k hk).2.1]
  exact near_in (he.2.2 _ g2).2.1 g3 _
theorem fl_eq {x y wy : Int32} (hw : wy = 1 ∨ wy = -1) : wy * x = wy * y ↔ x = y := by
  constructor
  · intro h
    rcases hw with rfl | rfl
    · grind
    · have h' : -1 * (-1 * x) = -1 * (-1 * y) := by rw [h]
      grind
  · intro h
    rw [h]
theorem fl_le {x y wy : Int32} (hw : wy = 1 ∨ wy = -1) (hx : inR x (-100) 100) (hy : inR y (-100) 100) : wy * x ≤ wy * y ↔ (x - y) * wy ≤ 0 := by
  obtain ⟨a, a1, a2, rfl⟩ := hx
  obtain ⟨c, c1, c2, rfl⟩ := hy
  rcases hw with rfl | rfl
  · rw [show (1 : Int32) = zI 1 from rfl, show (0 : Int32) = zI 0 from rfl, zI_sub, zI_mul, zI_mul, zI_mul, zI_le (by omega) (by omega) (by omega) (by omega), zI_le (by omega) (by omega) (by omega) (by omega)]
    omega
  · rw [show (-1 : Int32) = zI (-1) from rfl, show (0 : Int32) = zI 0 from rfl, zI_sub, zI_mul, zI_mul, zI_mul, zI_le (by omega) (by omega) (by omega) (by omega), zI_le (by omega) (by omega) (by omega) (by omega)]
    omega
theorem ctR_isFlat (he : eR C M ec) (hb : bN C M b ec) (ha : bA C M b) (hs : 2 ≤ csz C b) : zm_C w mX4_isFlat [.ref q, .int (nI b)] (mH f q M, n) (some (.int (m_flat C b (csz C b)))) (mH f q M, n) := by
  have hb33 := hb.1
  have hS := hb.2.1
  refine zm_C.of (mc := 0) (ms := 0) rfl rfl (by decide) (Nat.le_of_ble_eq_true rfl) ?_
  intro Γ X
  refine bkX4_isFlat_0 X [some (.ref q), some (.int (nI b)), none, none, none, none, none] [] _ ?_
  simp only [zi_push, zi_ldi, zi_ldl, zi_lda, zi_sti, zi_stl, zi_sta, zi_inc, zi_b, zi_d, zi_u, zi_bl, zi_dl, zi_ul, zi_lcmp, zi_i2l, zi_l2i, zi_if, zi_ic, zi_nul, zi_dup, zi_pop, zi_dup_x1, zi_dup2, zi_gf, zi_pf, zi_ia, zi_is, zi_la, zi_lst, zi_aa, zi_as, zi_len, zi_new, zi_na, zi_mx, zi_mn, zi_sw, zi_swx, zi_cv, zi_cs, zi_ci, zi_obj, zi_iret, zi_lret, zi_zret, zi_aret, zi_vret, zm_s1, zm_s2, zm_k, zm_tk, zm_Rt, zm_is, List.getElem?_cons_zero, List.getElem?_cons_succ, List.set_cons_zero, List.set_cons_succ, List.length_cons, List.length_nil, List.map_cons, List.map_nil, List.sum_cons, List.sum_nil, List.nil_append, List.cons_append, Option.toList, Value.category, reduceIte, Nat.reduceAdd, Nat.reduceLeDiff, Nat.reduceLT, Nat.reduceEqDiff, Nat.reduceMul, and_true, true_and, and_self, Nat.zero_add, Nat.add_zero, Nat.le_refl, true_or, or_true, not_true_eq_false, not_false_eq_true, zm_ft_int, zm_ft_long, zm_ft_ref, zm_ft_null, zm_ft_b0, zm_ft_b1, i_2, i_3, i_4, i_10, io_16, io_64, io_33, io_2, cF_ev, cF_bm, va_rf, cH_0, cH_1, cH_2, cH_3, cH_4, cH_5, uT4, uT5, uT6, uT7, uB1, uB2, uB3, uG, uV, mH_0, mH_1, mH_2, mH_3, mH_4, mH_5, mH_6, mH_7, mH_8, mH_9, mH_10, mH_11, mH_12, mH_13, mH_14, mH_15, mH_16, mH_17, mH_18, mH_19, mH_20, mH_21, vI0, vI1, vI2, vI3, vI5, vI17, vI18, vI19, vA4, vA6, vA7, vA8, vA9, vA10, vA11, vA12, vA13, vA14, vA15, vA16, vA20, vA21, vA22, vA23, vA24, vA25, vA26, vA27, vD, mI_tI, mA_tI, mD_tI, mI_tA, mD_tA, mI_tD, mA_tD, mD_tD, nI_clamp (show b < 2 ^ 31 by omega), ha.1]
  refine ⟨vp_in_nI (by omega) (by decide), fun p => by rw [m_flat, if_pos p], fun p => ⟨vp_in_nI (by omega) (by decide), ?_⟩⟩
  have hw : cM C b 2 = 1 ∨ cM C b 2 = -1 := by
    rcases ha.2.1 with h | h
    · exact absurd h p
    · exact h
  have hn0 := aim_near he hb ha (show 0 < csz C b by omega)
  have hnz := aim_near he hb ha (show csz C b - 1 < csz C b by omega)
  have key : ∀ (m i : Nat) (a : Int32) (r6 : Option Value), i + m = csz C b - 1 → (a = 0 ∨ a = 1) → itr (m_inF C b (m_n0 C b) (m_nz C b (csz C b))) m i a = m_flat C b (csz C b) → zm_V w Γ 61 [some (.ref q), some (.int (nI b)), some (.int (cM C b 2 * m_n0 C b)), some (.int (cM C b 2 * m_nz C b (csz C b))), some (.int a), some (.int (nI i)), r6] [] (mH f q M, n) := by
    intro m
    induction m with
    | zero =>
      intro i a r6 h1 h2 h3
      refine bkX4_isFlat_61 X _ _ _ ?_
      simp only [zi_push, zi_ldi, zi_ldl, zi_lda, zi_sti, zi_stl, zi_sta, zi_inc, zi_b, zi_d, zi_u, zi_bl, zi_dl, zi_ul, zi_lcmp, zi_i2l, zi_l2i, zi_if, zi_ic, zi_nul, zi_dup, zi_pop, zi_dup_x1, zi_dup2, zi_gf, zi_pf, zi_ia, zi_is, zi_la, zi_lst, zi_aa, zi_as, zi_len, zi_new, zi_na, zi_mx, zi_mn, zi_sw, zi_swx, zi_cv, zi_cs, zi_ci, zi_obj, zi_iret, zi_lret, zi_zret, zi_aret, zi_vret, zm_s1, zm_s2, zm_k, zm_tk, zm_Rt, zm_is, List.getElem?_cons_zero, List.getElem?_cons_succ, List.set_cons_zero, List.set_cons_succ, List.length_cons, List.length_nil, List.map_cons, List.map_nil, List.sum_cons, List.sum_nil, List.nil_append, List.cons_append, Option.toList, Value.category, reduceIte, Nat.reduceAdd, Nat.reduceLeDiff, Nat.reduceLT, Nat.reduceEqDiff, Nat.reduceMul, and_true, true_and, and_self, Nat.zero_add, Nat.add_zero, Nat.le_refl, true_or, or_true, not_true_eq_false, not_false_eq_true, zm_ft_int, zm_ft_long, zm_ft_ref, zm_ft_null, zm_ft_b0, zm_ft_b1, i_2, i_3, i_4, i_10, io_16, io_64, io_33, io_2, cF_ev, cF_bm, va_rf, cH_0, cH_1, cH_2, cH_3, cH_4, cH_5, uT4, uT5, uT6, uT7, uB1, uB2, uB3, uG, uV, mH_0, mH_1, mH_2, mH_3, mH_4, mH_5, mH_6, mH_7, mH_8, mH_9, mH_10, mH_11, mH_12, mH_13, mH_14, mH_15, mH_16, mH_17, mH_18, mH_19, mH_20, mH_21, vI0, vI1, vI2, vI3, vI5, vI17, vI18, vI19, vA4, vA6, vA7, vA8, vA9, vA10, vA11, vA12, vA13, vA14, vA15, vA16, vA20, vA21, vA22, vA23, vA24, vA25, vA26, vA27, vD, mI_tI, mA_tI, mD_tI, mI_tA, mD_tA, mI_tD, mA_tD, mD_tD, nI_clamp (show b < 2 ^ 31 by omega), hb.2.2.1, nI_m1 (show 0 < csz C b by omega)]
      refine ⟨vp_in_nI (by omega) (by decide), fun _ => ?_, fun r => absurd (nI_le (by omega) (by omega)) r⟩
      rw [← h3]
      exact ⟨h2, rfl⟩
    | succ m ih =>
      intro i a r6 h1 h2 h3
      have hi : i < csz C b := by omega
      have hni := aim_near he hb ha hi
      refine bkX4_isFlat_61 X _ _ _ ?_
      simp only [zi_push, zi_ldi, zi_ldl, zi_lda, zi_sti, zi_stl, zi_sta, zi_inc, zi_b, zi_d, zi_u, zi_bl, zi_dl, zi_ul, zi_lcmp, zi_i2l, zi_l2i, zi_if, zi_ic, zi_nul, zi_dup, zi_pop, zi_dup_x1, zi_dup2, zi_gf, zi_pf, zi_ia, zi_is, zi_la, zi_lst, zi_aa, zi_as, zi_len, zi_new, zi_na, zi_mx, zi_mn, zi_sw, zi_swx, zi_cv, zi_cs, zi_ci, zi_obj, zi_iret, zi_lret, zi_zret, zi_aret, zi_vret, zm_s1, zm_s2, zm_k, zm_tk, zm_Rt, zm_is, List.getElem?_cons_zero, List.getElem?_cons_succ, List.set_cons_zero, List.set_cons_succ, List.length_cons, List.length_nil, List.map_cons, List.map_nil, List.sum_cons, List.sum_nil, List.nil_append, List.cons_append, Option.toList, Value.category, reduceIte, Nat.reduceAdd, Nat.reduceLeDiff, Nat.reduceLT, Nat.reduceEqDiff, Nat.reduceMul, and_true, true_and, and_self, Nat.zero_add, Nat.add_zero, Nat.le_refl, true_or, or_true, not_true_eq_false, not_false_eq_true, zm_ft_int, zm_ft_long, zm_ft_ref, zm_ft_null, zm_ft_b0, zm_ft_b1, i_2, i_3, i_4, i_10, io_16, io_64, io_33, io_2, cF_ev, cF_bm, va_rf, cH_0, cH_1, cH_2, cH_3, cH_4, cH_5, uT4, uT5, uT6, uT7, uB1, uB2, uB3, uG, uV, mH_0, mH_1, mH_2, mH_3, mH_4, mH_5, mH_6, mH_7, mH_8, mH_9, mH_10, mH_11, mH_12, mH_13, mH_14, mH_15, mH_16, mH_17, mH_18, mH_19, mH_20, mH_21, vI0, vI1, vI2, vI3, vI5, vI17, vI18, vI19, vA4, vA6, vA7, vA8, vA9, vA10, vA11, vA12, vA13, vA14, vA15, vA16, vA20, vA21, vA22, vA23, vA24, vA25, vA26, vA27, vD, mI_tI, mA_tI, mD_tI, mI_tA, mD_tA, mI_tD, mA_tD, mD_tD, nI_clamp (show b < 2 ^ 31 by omega), hb.2.2.1, nI_m1 (show 0 < csz C b by omega), ha.1]
      refine ⟨vp_in_nI (by omega) (by decide), fun r => absurd r (nI_ge (by omega) (by omega)), fun _ => ⟨vp_in_nI (by omega) (by decide), ?_⟩⟩
      refine zm_call.of (ctR_nearAt he hb ha hi) (Nat.le_refl _) (Nat.le_refl _) ?_
      simp only [zi_push, zi_ldi, zi_ldl, zi_lda, zi_sti, zi_stl, zi_sta, zi_inc, zi_b, zi_d, zi_u, zi_bl, zi_dl, zi_ul, zi_lcmp, zi_i2l, zi_l2i, zi_if, zi_ic, zi_nul, zi_dup, zi_pop, zi_dup_x1, zi_dup2, zi_gf, zi_pf, zi_ia, zi_is, zi_la, zi_lst, zi_aa, zi_as, zi_len, zi_new, zi_na, zi_mx, zi_mn, zi_sw, zi_swx, zi_cv, zi_cs, zi_ci, zi_obj, zi_iret, zi_lret, zi_zret, zi_aret, zi_vret, zm_s1, zm_s2, zm_k, zm_tk, zm_Rt, zm_is, List.getElem?_cons_zero, List.getElem?_cons_succ, List.set_cons_zero, List.set_cons_succ, List.length_cons, List.length_nil, List.map_cons, List.map_nil, List.sum_cons, List.sum_nil, List.nil_append, List.cons_append, Option.toList, Value.category, reduceIte, Nat.reduceAdd, Nat.reduceLeDiff, Nat.reduceLT, Nat.reduceEqDiff, Nat.reduceMul, and_true, true_and, and_self, Nat.zero_add, Nat.add_zero, Nat.le_refl, true_or, or_true, not_true_eq_false, not_false_eq_true, zm_ft_int, zm_ft_long, zm_ft_ref, zm_ft_null, zm_ft_b0, zm_ft_b1, i_2, i_3, i_4, i_10, io_16, io_64, io_33, io_2, cF_ev, cF_bm, va_rf, cH_0, cH_1, cH_2, cH_3, cH_4, cH_5, uT4, uT5, uT6, uT7, uB1, uB2, uB3, uG, uV, mH_0, mH_1, mH_2, mH_3, mH_4, mH_5, mH_6, mH_7, mH_8, mH_9, mH_10, mH_11, mH_12, mH_13, mH_14, mH_15, mH_16, mH_17, mH_18, mH_19, mH_20, mH_21, vI0, vI1, vI2, vI3, vI5, vI17, vI18, vI19, vA4, vA6, vA7, vA8, vA9, vA10, vA11, vA12, vA13, vA14, vA15, vA16, vA20, vA21, vA22, vA23, vA24, vA25, vA26, vA27, vD, mI_tI, mA_tI, mD_tI, mI_tA, mD_tA, mI_tD, mA_tD, mD_tD, nI_1]
      have e1 : cM C b 2 * cE C (cN C b i) 13 ≤ cM C b 2 * m_n0 C b ↔ (cE C (cN C b i) 13 - m_n0 C b) * cM C b 2 ≤ 0 := fl_le hw (inR_w hni (by omega) (by omega)) (inR_w hn0 (by omega) (by omega))
      have e2 : cM C b 2 * cE C (cN C b i) 13 ≤ cM C b 2 * m_nz C b (csz C b) ↔ (cE C (cN C b i) 13 - m_nz C b (csz C b)) * cM C b 2 ≤ 0 := fl_le hw (inR_w hni (by omega) (by omega)) (inR_w hnz (by omega) (by omega))
      rw [itr, m_inF] at h3
      rw [e1, e2]
      refine ⟨fun r => ⟨fun t => ?_, fun t => ⟨fun u => ?_, fun u => ?_⟩⟩, fun r => ?_⟩
      · rw [if_pos r, if_pos t] at h3
        exact ih (i + 1) 0 _ (by omega) (Or.inl rfl) h3
      · rw [if_pos r, if_neg t, if_pos u] at h3
        exact ih (i + 1) 0 _ (by omega) (Or.inl rfl) h3
      · rw [if_pos r, if_neg t, if_neg u] at h3
        exact ih (i + 1) 1 _ (by omega) (Or.inr rfl) h3
      · rw [if_neg r] at h3
        exact ih (i + 1) 1 _ (by omega) (Or.inr rfl) h3
  refine zm_call.of (ctR_nearAt he hb ha (k := 0) (by omega)) (Nat.le_refl _) (Nat.le_refl _) ?_
  simp only [zi_push, zi_ldi, zi_ldl, zi_lda, zi_sti, zi_stl, zi_sta, zi_inc, zi_b, zi_d, zi_u, zi_bl, zi_dl, zi_ul, zi_lcmp, zi_i2l, zi_l2i, zi_if, zi_ic, zi_nul, zi_dup, zi_pop, zi_dup_x1, zi_dup2, zi_gf, zi_pf, zi_ia, zi_is, zi_la, zi_lst, zi_aa, zi_as, zi_len, zi_new, zi_na, zi_mx, zi_mn, zi_sw, zi_swx, zi_cv, zi_cs, zi_ci, zi_obj, zi_iret, zi_lret, zi_zret, zi_aret, zi_vret, zm_s1, zm_s2, zm_k, zm_tk, zm_Rt, zm_is, List.getElem?_cons_zero, List.getElem?_cons_succ, List.set_cons_zero, List.set_cons_succ, List.length_cons, List.length_nil, List.map_cons, List.map_nil, List.sum_cons, List.sum_nil, List.nil_append, List.cons_append, Option.toList, Value.category, reduceIte, Nat.reduceAdd, Nat.reduceLeDiff, Nat.reduceLT, Nat.reduceEqDiff, Nat.reduceMul, and_true, true_and, and_self, Nat.zero_add, Nat.add_zero, Nat.le_refl, true_or, or_true, not_true_eq_false, not_false_eq_true, zm_ft_int, zm_ft_long, zm_ft_ref, zm_ft_null, zm_ft_b0, zm_ft_b1, i_2, i_3, i_4, i_10, io_16, io_64, io_33, io_2, cF_ev, cF_bm, va_rf, cH_0, cH_1, cH_2, cH_3, cH_4, cH_5, uT4, uT5, uT6, uT7, uB1, uB2, uB3, uG, uV, mH_0, mH_1, mH_2, mH_3, mH_4, mH_5, mH_6, mH_7, mH_8, mH_9, mH_10, mH_11, mH_12, mH_13, mH_14, mH_15, mH_16, mH_17, mH_18, mH_19, mH_20, mH_21, vI0, vI1, vI2, vI3, vI5, vI17, vI18, vI19, vA4, vA6, vA7, vA8, vA9, vA10, vA11, vA12, vA13, vA14, vA15, vA16, vA20, vA21, vA22, vA23, vA24, vA25, vA26, vA27, vD, mI_tI, mA_tI, mD_tI, mI_tA, mD_tA, mI_tD, mA_tD, mD_tD, nI_clamp (show b < 2 ^ 31 by omega), hb.2.2.1, nI_m1 (show 0 < csz C b by omega), ha.1]
  refine ⟨vp_in_nI (by omega) (by decide), vp_in_nI (by omega) (by decide), ?_⟩
  refine zm_call.of (ctR_nearAt he hb ha (k := csz C b - 1) (by omega)) (Nat.le_refl _) (Nat.le_refl _) ?_
  simp only [zi_push, zi_ldi, zi_ldl, zi_lda, zi_sti, zi_stl, zi_sta, zi_inc, zi_b, zi_d, zi_u, zi_bl, zi_dl, zi_ul, zi_lcmp, zi_i2l, zi_l2i, zi_if, zi_ic, zi_nul, zi_dup, zi_pop, zi_dup_x1, zi_dup2, zi_gf, zi_pf, zi_ia, zi_is, zi_la, zi_lst, zi_aa, zi_as, zi_len, zi_new, zi_na, zi_mx, zi_mn, zi_sw, zi_swx, zi_cv, zi_cs, zi_ci, zi_obj, zi_iret, zi_lret, zi_zret, zi_aret, zi_vret, zm_s1, zm_s2, zm_k, zm_tk, zm_Rt, zm_is, List.getElem?_cons_zero, List.getElem?_cons_succ, List.set_cons_zero, List.set_cons_succ, List.length_cons, List.length_nil, List.map_cons, List.map_nil, List.sum_cons, List.sum_nil, List.nil_append, List.cons_append, Option.toList, Value.category, reduceIte, Nat.reduceAdd, Nat.reduceLeDiff, Nat.reduceLT, Nat.reduceEqDiff, Nat.reduceMul, and_true, true_and, and_self, Nat.zero_add, Nat.add_zero, Nat.le_refl, true_or, or_true, not_true_eq_false, not_false_eq_true, zm_ft_int, zm_ft_long, zm_ft_ref, zm_ft_null, zm_ft_b0, zm_ft_b1, i_2, i_3, i_4, i_10, io_16, io_64, io_33, io_2, cF_ev, cF_bm, va_rf, cH_0, cH_1, cH_2, cH_3, cH_4, cH_5, uT4, uT5, uT6, uT7, uB1, uB2, uB3, uG, uV, mH_0, mH_1, mH_2, mH_3, mH_4, mH_5, mH_6, mH_7, mH_8, mH_9, mH_10, mH_11, mH_12, mH_13, mH_14, mH_15, mH_16, mH_17, mH_18, mH_19, mH_20, mH_21, vI0, vI1, vI2, vI3, vI5, vI17, vI18, vI19, vA4, vA6, vA7, vA8, vA9, vA10, vA11, vA12, vA13, vA14, vA15, vA16, vA20, vA21, vA22, vA23, vA24, vA25, vA26, vA27, vD, mI_tI, mA_tI, mD_tI, mI_tA, mD_tA, mI_tD, mA_tD, mD_tD]
  rw [fl_eq hw]
  refine ⟨fun r => ?_, fun r => ?_⟩
  · refine key (csz C b - 2) 1 1 none (by omega) (Or.inr rfl) ?_
    rw [m_flat, if_neg p, if_pos (show m_n0 C b = m_nz C b (csz C b) from r)]
    refine itr_fix _ 1 (fun k => ?_) _ _
    rw [m_inF, if_neg (by decide)]
  · refine key (csz C b - 2) 1 0 none (by omega) (Or.inl rfl) ?_
    rw [m_flat, if_neg p, if_neg (show ¬ m_n0 C b = m_nz C b (csz C b) from r)]
def m_whT (C : cS) (j : Nat) (two : Int32) (k : Nat) (t : Int32 × Int32 × Int32) : Int32 × Int32 × Int32 := (if cE C (cN C j k) 6 < t.1 then cE C (cN C j k) 6 else t.1, if t.2.1 < cE C (cN C j k) 7 then cE C (cN C j k) 7 else t.2.1, t.2.2 + e_alone C (cN C j k) two)
theorem hi2 {x y : Int32} (hx : inR x (-12) 12) (hy : inR y (-12) 12) : (if 2 * x ≤ 2 * y then 2 * y else 2 * x) = 2 * (if y < x then x else y) ∧ (if 2 * y ≤ 2 * x then 2 * y else 2 * x) = 2 * (if x < y then x else y) := by
  obtain ⟨a, a1, a2, rfl⟩ := hx
  obtain ⟨c, c1, c2, rfl⟩ := hy
  rw [show (2 : Int32) = zI 2 from rfl, zI_mul, zI_mul]
  simp only [zI_le (show -2147483648 ≤ 2 * a by omega) (show 2 * a < 2147483648 by omega) (show -2147483648 ≤ 2 * c by omega) (show 2 * c < 2147483648 by omega), zI_le (show -2147483648 ≤ 2 * c by omega) (show 2 * c < 2147483648 by omega) (show -2147483648 ≤ 2 * a by omega) (show 2 * a < 2147483648 by omega), zI_lt (show -2147483648 ≤ c by omega) (show c < 2147483648 by omega) (show -2147483648 ≤ a by omega) (show a < 2147483648 by omega), zI_lt (show -2147483648 ≤ a by omega) (show a < 2147483648 by omega) (show -2147483648 ≤ c by omega) (show c < 2147483648 by omega)]
  constructor
  · by_cases h : c < a
    · rw [if_pos h, if_neg (by omega), zI_mul]
    · rw [if_neg h, if_pos (by omega), zI_mul]
  · by_cases h : a < c
    · rw [if_pos h, if_neg (by omega), zI_mul]
    · rw [if_neg h, if_pos (by omega), zI_mul]
theorem inR_if {x y : Int32} {a c : Int} (hx : inR x a c) (hy : inR y a c) (p : Prop) [Decidable p] : inR (if p then x else y) a c := by
  split
  · exact hx
  · exact hy
theorem hi0 {x : Int32} (hx : inR x (-12) 12) : (¬ 2 * x ≤ -1000) ∧ ¬ 1000 ≤ 2 * x := by
  obtain ⟨a, a1, a2, rfl⟩ := hx
  rw [show (2 : Int32) = zI 2 from rfl, show (-1000 : Int32) = zI (-1000) from rfl, show (1000 : Int32) = zI 1000 from rfl, zI_mul, zI_le (by omega) (by omega) (by omega) (by omega), zI_le (by omega) (by omega) (by omega) (by omega)]
  omega
theorem whE_eq {x y u : Int32} (hx : inR x (-12) 12) (hy : inR y (-12) 12) : (if 0 ≤ 2 * y + 2 * x then (if 2 * y + 2 * x ≤ 0 then (if u ≤ 0 then -1 else 1) else -1) else 1) = m_whE (x, y, u) := by
  obtain ⟨a, a1, a2, rfl⟩ := hx
  obtain ⟨c, c1, c2, rfl⟩ := hy
  unfold m_whE
  dsimp only
  rw [zI_add, show (2 : Int32) * zI c + 2 * zI a = zI (2 * c + 2 * a) by rw [show (2 : Int32) = zI 2 from rfl, zI_mul, zI_mul, zI_add]]
  rw [show (0 : Int32) = zI 0 from rfl]
  simp only [zI_le (show -2147483648 ≤ 0 by omega) (show 0 < 2147483648 by omega) (show -2147483648 ≤ 2 * c + 2 * a by omega) (show 2 * c + 2 * a < 2147483648 by omega), zI_le (show -2147483648 ≤ 2 * c + 2 * a by omega) (show 2 * c + 2 * a < 2147483648 by omega) (show -2147483648 ≤ 0 by omega) (show 0 < 2147483648 by omega), zI_lt (show -2147483648 ≤ a + c by omega) (show a + c < 2147483648 by omega) (show -2147483648 ≤ 0 by omega) (show 0 < 2147483648 by omega), zI_eq (show -2147483648 ≤ a + c by omega) (show a + c < 2147483648 by omega) (show -2147483648 ≤ 0 by omega) (show 0 < 2147483648 by omega)]
  by_cases h : a + c < 0
  · rw [if_pos h, if_neg (by omega)]
  · rw [if_neg h, if_pos (by omega)]
    by_cases h' : a + c = 0
    · rw [if_pos h', if_pos (by omega)]
    · rw [if_neg h', if_neg (by omega)]
theorem ctR_direction (he : eR C M ec) (hV : mA M 16 1 = cV C 1) (hb : bN C M b ec) (hs : 1 ≤ csz C b) : zm_C w mX4_direction [.ref q, .int (nI b)] (mH f q M, n) (some (.int (m_way C b (csz C b) (c_two C)))) (mH f q M, n) := by
  have hb33 := hb.1
  have hS := hb.2.1
  have hec := he.1
  refine zm_C.of (mc := 0) (ms := 0) rfl rfl (by decide) (Nat.le_of_ble_eq_true rfl) ?_
  intro Γ X
  have it : ∀ (k : Nat) (hi lo up bo : Int32) (r8 : Option Value), k < csz C b → zm_V w Γ 30 [some (.ref q), some (.int (nI b)), some (.int (cE C (cN C b 0) 8)), some (.int (if 2 * cE C (cN C b k) 7 ≤ hi then hi else 2 * cE C (cN C b k) 7)), some (.int (if lo ≤ 2 * cE C (cN C b k) 6 then lo else 2 * cE C (cN C b k) 6)), some (.int (up + e_alone C (cN C b k) (c_two C))), some (.int (m_both C b k bo)), some (.int (nI (k + 1))), some (.int (nI (cN C b k)))] [] (mH f q M, n) → zm_V w Γ 30 [some (.ref q), some (.int (nI b)), some (.int (cE C (cN C b 0) 8)), some (.int hi), some (.int lo), some (.int up), some (.int bo), some (.int (nI k)), r8] [] (mH f q M, n) := by
    intro k hi lo up bo r8 hk hnext
    obtain ⟨g1, g2, g3, g4⟩ := hb.2.2.2 k hk
    have ho := he.2.2 _ g2
    have h64 : cN C b k < 64 := by omega
    have k116 : ∀ x : Int32, x = (if lo ≤ 2 * cE C (cN C b k) 6 then lo else 2 * cE C (cN C b k) 6) → zm_V w Γ 116 [some (.ref q), some (.int (nI b)), some (.int (cE C (cN C b 0) 8)), some (.int (if 2 * cE C (cN C b k) 7 ≤ hi then hi else 2 * cE C (cN C b k) 7)), some (.int lo), some (.int up), some (.int (m_both C b k bo)), some (.int (nI k)), some (.int (nI (cN C b k)))] [.int x] (mH f q M, n) := by
      intro x hx
      refine bkX4_direction_116 X _ _ _ ?_
      simp only [zi_push, zi_ldi, zi_ldl, zi_lda, zi_sti, zi_stl, zi_sta, zi_inc, zi_b, zi_d, zi_u, zi_bl, zi_dl, zi_ul, zi_lcmp, zi_i2l, zi_l2i, zi_if, zi_ic, zi_nul, zi_dup, zi_pop, zi_dup_x1, zi_dup2, zi_gf, zi_pf, zi_ia, zi_is, zi_la, zi_lst, zi_aa, zi_as, zi_len, zi_new, zi_na, zi_mx, zi_mn, zi_sw, zi_swx, zi_cv, zi_cs, zi_ci, zi_obj, zi_iret, zi_lret, zi_zret, zi_aret, zi_vret, zm_s1, zm_s2, zm_k, zm_tk, zm_Rt, zm_is, List.getElem?_cons_zero, List.getElem?_cons_succ, List.set_cons_zero, List.set_cons_succ, List.length_cons, List.length_nil, List.map_cons, List.map_nil, List.sum_cons, List.sum_nil, List.nil_append, List.cons_append, Option.toList, Value.category, reduceIte, Nat.reduceAdd, Nat.reduceLeDiff, Nat.reduceLT, Nat.reduceEqDiff, Nat.reduceMul, and_true, true_and, and_self, Nat.zero_add, Nat.add_zero, Nat.le_refl, true_or, or_true, not_true_eq_false, not_false_eq_true, zm_ft_int, zm_ft_long, zm_ft_ref, zm_ft_null, zm_ft_b0, zm_ft_b1, i_2, i_3, i_4, i_10, io_16, io_64, io_33, io_2, cF_ev, cF_bm, va_rf, cH_0, cH_1, cH_2, cH_3, cH_4, cH_5, uT4, uT5, uT6, uT7, uB1, uB2, uB3, uG, uV, mH_0, mH_1, mH_2, mH_3, mH_4, mH_5, mH_6, mH_7, mH_8, mH_9, mH_10, mH_11, mH_12, mH_13, mH_14, mH_15, mH_16, mH_17, mH_18, mH_19, mH_20, mH_21, vI0, vI1, vI2, vI3, vI5, vI17, vI18, vI19, vA4, vA6, vA7, vA8, vA9, vA10, vA11, vA12, vA13, vA14, vA15, vA16, vA20, vA21, vA22, vA23, vA24, vA25, vA26, vA27, vD, mI_tI, mA_tI, mD_tI, mI_tA, mD_tA, mI_tD, mA_tD, mD_tD]
      refine zm_call.of (ctR_alone h64 ho g3 hV) (Nat.le_refl _) (Nat.le_refl _) ?_
      simp only [zi_push, zi_ldi, zi_ldl, zi_lda, zi_sti, zi_stl, zi_sta, zi_inc, zi_b, zi_d, zi_u, zi_bl, zi_dl, zi_ul, zi_lcmp, zi_i2l, zi_l2i, zi_if, zi_ic, zi_nul, zi_dup, zi_pop, zi_dup_x1, zi_dup2, zi_gf, zi_pf, zi_ia, zi_is, zi_la, zi_lst, zi_aa, zi_as, zi_len, zi_new, zi_na, zi_mx, zi_mn, zi_sw, zi_swx, zi_cv, zi_cs, zi_ci, zi_obj, zi_iret, zi_lret, zi_zret, zi_aret, zi_vret, zm_s1, zm_s2, zm_k, zm_tk, zm_Rt, zm_is, List.getElem?_cons_zero, List.getElem?_cons_succ, List.set_cons_zero, List.set_cons_succ, List.length_cons, List.length_nil, List.map_cons, List.map_nil, List.sum_cons, List.sum_nil, List.nil_append, List.cons_append, Option.toList, Value.category, reduceIte, Nat.reduceAdd, Nat.reduceLeDiff, Nat.reduceLT, Nat.reduceEqDiff, Nat.reduceMul, and_true, true_and, and_self, Nat.zero_add, Nat.add_zero, Nat.le_refl, true_or, or_true, not_true_eq_false, not_false_eq_true, zm_ft_int, zm_ft_long, zm_ft_ref, zm_ft_null, zm_ft_b0, zm_ft_b1, i_2, i_3, i_4, i_10, io_16, io_64, io_33, io_2, cF_ev, cF_bm, va_rf, cH_0, cH_1, cH_2, cH_3, cH_4, cH_5, uT4, uT5, uT6, uT7, uB1, uB2, uB3, uG, uV, mH_0, mH_1, mH_2, mH_3, mH_4, mH_5, mH_6, mH_7, mH_8, mH_9, mH_10, mH_11, mH_12, mH_13, mH_14, mH_15, mH_16, mH_17, mH_18, mH_19, mH_20, mH_21, vI0, vI1, vI2, vI3, vI5, vI17, vI18, vI19, vA4, vA6, vA7, vA8, vA9, vA10, vA11, vA12, vA13, vA14, vA15, vA16, vA20, vA21, vA22, vA23, vA24, vA25, vA26, vA27, vD, mI_tI, mA_tI, mD_tI, mI_tA, mD_tA, mI_tD, mA_tD, mD_tD, nI_1]
      rw [hx]
      exact hnext
    have k93 : ∀ x : Int32, x = (if 2 * cE C (cN C b k) 7 ≤ hi then hi else 2 * cE C (cN C b k) 7) → zm_V w Γ 93 [some (.ref q), some (.int (nI b)), some (.int (cE C (cN C b 0) 8)), some (.int hi), some (.int lo), some (.int up), some (.int (m_both C b k bo)), some (.int (nI k)), some (.int (nI (cN C b k)))] [.int x] (mH f q M, n) := by
      intro x hx
      refine bkX4_direction_93 X _ _ _ ?_
      simp only [zi_push, zi_ldi, zi_ldl, zi_lda, zi_sti, zi_stl, zi_sta, zi_inc, zi_b, zi_d, zi_u, zi_bl, zi_dl, zi_ul, zi_lcmp, zi_i2l, zi_l2i, zi_if, zi_ic, zi_nul, zi_dup, zi_pop, zi_dup_x1, zi_dup2, zi_gf, zi_pf, zi_ia, zi_is, zi_la, zi_lst, zi_aa, zi_as, zi_len, zi_new, zi_na, zi_mx, zi_mn, zi_sw, zi_swx, zi_cv, zi_cs, zi_ci, zi_obj, zi_iret, zi_lret, zi_zret, zi_aret, zi_vret, zm_s1, zm_s2, zm_k, zm_tk, zm_Rt, zm_is, List.getElem?_cons_zero, List.getElem?_cons_succ, List.set_cons_zero, List.set_cons_succ, List.length_cons, List.length_nil, List.map_cons, List.map_nil, List.sum_cons, List.sum_nil, List.nil_append, List.cons_append, Option.toList, Value.category, reduceIte, Nat.reduceAdd, Nat.reduceLeDiff, Nat.reduceLT, Nat.reduceEqDiff, Nat.reduceMul, and_true, true_and, and_self, Nat.zero_add, Nat.add_zero, Nat.le_refl, true_or, or_true, not_true_eq_false, not_false_eq_true, zm_ft_int, zm_ft_long, zm_ft_ref, zm_ft_null, zm_ft_b0, zm_ft_b1, i_2, i_3, i_4, i_10, io_16, io_64, io_33, io_2, cF_ev, cF_bm, va_rf, cH_0, cH_1, cH_2, cH_3, cH_4, cH_5, uT4, uT5, uT6, uT7, uB1, uB2, uB3, uG, uV, mH_0, mH_1, mH_2, mH_3, mH_4, mH_5, mH_6, mH_7, mH_8, mH_9, mH_10, mH_11, mH_12, mH_13, mH_14, mH_15, mH_16, mH_17, mH_18, mH_19, mH_20, mH_21, vI0, vI1, vI2, vI3, vI5, vI17, vI18, vI19, vA4, vA6, vA7, vA8, vA9, vA10, vA11, vA12, vA13, vA14, vA15, vA16, vA20, vA21, vA22, vA23, vA24, vA25, vA26, vA27, vD, mI_tI, mA_tI, mD_tI, mI_tA, mD_tA, mI_tD, mA_tD, mD_tD]
      refine zm_call.of (ctR_lowest h64 ho g3) (Nat.le_refl _) (Nat.le_refl _) ?_
      simp only [zi_push, zi_ldi, zi_ldl, zi_lda, zi_sti, zi_stl, zi_sta, zi_inc, zi_b, zi_d, zi_u, zi_bl, zi_dl, zi_ul, zi_lcmp, zi_i2l, zi_l2i, zi_if, zi_ic, zi_nul, zi_dup, zi_pop, zi_dup_x1, zi_dup2, zi_gf, zi_pf, zi_ia, zi_is, zi_la, zi_lst, zi_aa, zi_as, zi_len, zi_new, zi_na, zi_mx, zi_mn, zi_sw, zi_swx, zi_cv, zi_cs, zi_ci, zi_obj, zi_iret, zi_lret, zi_zret, zi_aret, zi_vret, zm_s1, zm_s2, zm_k, zm_tk, zm_Rt, zm_is, List.getElem?_cons_zero, List.getElem?_cons_succ, List.set_cons_zero, List.set_cons_succ, List.length_cons, List.length_nil, List.map_cons, List.map_nil, List.sum_cons, List.sum_nil, List.nil_append, List.cons_append, Option.toList, Value.category, reduceIte, Nat.reduceAdd, Nat.reduceLeDiff, Nat.reduceLT, Nat.reduceEqDiff, Nat.reduceMul, and_true, true_and, and_self, Nat.zero_add, Nat.add_zero, Nat.le_refl, true_or, or_true, not_true_eq_false, not_false_eq_true, zm_ft_int, zm_ft_long, zm_ft_ref, zm_ft_null, zm_ft_b0, zm_ft_b1, i_2, i_3, i_4, i_10, io_16, io_64, io_33, io_2, cF_ev, cF_bm, va_rf, cH_0, cH_1, cH_2, cH_3, cH_4, cH_5, uT4, uT5, uT6, uT7, uB1, uB2, uB3, uG, uV, mH_0, mH_1, mH_2, mH_3, mH_4, mH_5, mH_6, mH_7, mH_8, mH_9, mH_10, mH_11, mH_12, mH_13, mH_14, mH_15, mH_16, mH_17, mH_18, mH_19, mH_20, mH_21, vI0, vI1, vI2, vI3, vI5, vI17, vI18, vI19, vA4, vA6, vA7, vA8, vA9, vA10, vA11, vA12, vA13, vA14, vA15, vA16, vA20, vA21, vA22, vA23, vA24, vA25, vA26, vA27, vD, mI_tI, mA_tI, mD_tI, mI_tA, mD_tA, mI_tD, mA_tD, mD_tD]
      rw [hx]
      refine ⟨fun r => k116 _ (by rw [if_pos r]), fun r => ?_⟩
      refine zm_call.of (ctR_lowest h64 ho g3) (Nat.le_refl _) (Nat.le_refl _) ?_
      simp only [zi_push, zi_ldi, zi_ldl, zi_lda, zi_sti, zi_stl, zi_sta, zi_inc, zi_b, zi_d, zi_u, zi_bl, zi_dl, zi_ul, zi_lcmp, zi_i2l, zi_l2i, zi_if, zi_ic, zi_nul, zi_dup, zi_pop, zi_dup_x1, zi_dup2, zi_gf, zi_pf, zi_ia, zi_is, zi_la, zi_lst, zi_aa, zi_as, zi_len, zi_new, zi_na, zi_mx, zi_mn, zi_sw, zi_swx, zi_cv, zi_cs, zi_ci, zi_obj, zi_iret, zi_lret, zi_zret, zi_aret, zi_vret, zm_s1, zm_s2, zm_k, zm_tk, zm_Rt, zm_is, List.getElem?_cons_zero, List.getElem?_cons_succ, List.set_cons_zero, List.set_cons_succ, List.length_cons, List.length_nil, List.map_cons, List.map_nil, List.sum_cons, List.sum_nil, List.nil_append, List.cons_append, Option.toList, Value.category, reduceIte, Nat.reduceAdd, Nat.reduceLeDiff, Nat.reduceLT, Nat.reduceEqDiff, Nat.reduceMul, and_true, true_and, and_self, Nat.zero_add, Nat.add_zero, Nat.le_refl, true_or, or_true, not_true_eq_false, not_false_eq_true, zm_ft_int, zm_ft_long, zm_ft_ref, zm_ft_null, zm_ft_b0, zm_ft_b1, i_2, i_3, i_4, i_10, io_16, io_64, io_33, io_2, cF_ev, cF_bm, va_rf, cH_0, cH_1, cH_2, cH_3, cH_4, cH_5, uT4, uT5, uT6, uT7, uB1, uB2, uB3, uG, uV, mH_0, mH_1, mH_2, mH_3, mH_4, mH_5, mH_6, mH_7, mH_8, mH_9, mH_10, mH_11, mH_12, mH_13, mH_14, mH_15, mH_16, mH_17, mH_18, mH_19, mH_20, mH_21, vI0, vI1, vI2, vI3, vI5, vI17, vI18, vI19, vA4, vA6, vA7, vA8, vA9, vA10, vA11, vA12, vA13, vA14, vA15, vA16, vA20, vA21, vA22, vA23, vA24, vA25, vA26, vA27, vD, mI_tI, mA_tI, mD_tI, mI_tA, mD_tA, mI_tD, mA_tD, mD_tD]
      exact k116 _ (by rw [if_neg r])
    have k71 : ∀ x : Int32, x = m_both C b k bo → zm_V w Γ 71 [some (.ref q), some (.int (nI b)), some (.int (cE C (cN C b 0) 8)), some (.int hi), some (.int lo), some (.int up), some (.int bo), some (.int (nI k)), some (.int (nI (cN C b k)))] [.int x] (mH f q M, n) := by
      intro x hx
      refine bkX4_direction_71 X _ _ _ ?_
      simp only [zi_push, zi_ldi, zi_ldl, zi_lda, zi_sti, zi_stl, zi_sta, zi_inc, zi_b, zi_d, zi_u, zi_bl, zi_dl, zi_ul, zi_lcmp, zi_i2l, zi_l2i, zi_if, zi_ic, zi_nul, zi_dup, zi_pop, zi_dup_x1, zi_dup2, zi_gf, zi_pf, zi_ia, zi_is, zi_la, zi_lst, zi_aa, zi_as, zi_len, zi_new, zi_na, zi_mx, zi_mn, zi_sw, zi_swx, zi_cv, zi_cs, zi_ci, zi_obj, zi_iret, zi_lret, zi_zret, zi_aret, zi_vret, zm_s1, zm_s2, zm_k, zm_tk, zm_Rt, zm_is, List.getElem?_cons_zero, List.getElem?_cons_succ, List.set_cons_zero, List.set_cons_succ, List.length_cons, List.length_nil, List.map_cons, List.map_nil, List.sum_cons, List.sum_nil, List.nil_append, List.cons_append, Option.toList, Value.category, reduceIte, Nat.reduceAdd, Nat.reduceLeDiff, Nat.reduceLT, Nat.reduceEqDiff, Nat.reduceMul, and_true, true_and, and_self, Nat.zero_add, Nat.add_zero, Nat.le_refl, true_or, or_true, not_true_eq_false, not_false_eq_true, zm_ft_int, zm_ft_long, zm_ft_ref, zm_ft_null, zm_ft_b0, zm_ft_b1, i_2, i_3, i_4, i_10, io_16, io_64, io_33, io_2, cF_ev, cF_bm, va_rf, cH_0, cH_1, cH_2, cH_3, cH_4, cH_5, uT4, uT5, uT6, uT7, uB1, uB2, uB3, uG, uV, mH_0, mH_1, mH_2, mH_3, mH_4, mH_5, mH_6, mH_7, mH_8, mH_9, mH_10, mH_11, mH_12, mH_13, mH_14, mH_15, mH_16, mH_17, mH_18, mH_19, mH_20, mH_21, vI0, vI1, vI2, vI3, vI5, vI17, vI18, vI19, vA4, vA6, vA7, vA8, vA9, vA10, vA11, vA12, vA13, vA14, vA15, vA16, vA20, vA21, vA22, vA23, vA24, vA25, vA26, vA27, vD, mI_tI, mA_tI, mD_tI, mI_tA, mD_tA, mI_tD, mA_tD, mD_tD]
      refine zm_call.of (ctR_highest h64 ho g3) (Nat.le_refl _) (Nat.le_refl _) ?_
      simp only [zi_push, zi_ldi, zi_ldl, zi_lda, zi_sti, zi_stl, zi_sta, zi_inc, zi_b, zi_d, zi_u, zi_bl, zi_dl, zi_ul, zi_lcmp, zi_i2l, zi_l2i, zi_if, zi_ic, zi_nul, zi_dup, zi_pop, zi_dup_x1, zi_dup2, zi_gf, zi_pf, zi_ia, zi_is, zi_la, zi_lst, zi_aa, zi_as, zi_len, zi_new, zi_na, zi_mx, zi_mn, zi_sw, zi_swx, zi_cv, zi_cs, zi_ci, zi_obj, zi_iret, zi_lret, zi_zret, zi_aret, zi_vret, zm_s1, zm_s2, zm_k, zm_tk, zm_Rt, zm_is, List.getElem?_cons_zero, List.getElem?_cons_succ, List.set_cons_zero, List.set_cons_succ, List.length_cons, List.length_nil, List.map_cons, List.map_nil, List.sum_cons, List.sum_nil, List.nil_append, List.cons_append, Option.toList, Value.category, reduceIte, Nat.reduceAdd, Nat.reduceLeDiff, Nat.reduceLT, Nat.reduceEqDiff, Nat.reduceMul, and_true, true_and, and_self, Nat.zero_add, Nat.add_zero, Nat.le_refl, true_or, or_true, not_true_eq_false, not_false_eq_true, zm_ft_int, zm_ft_long, zm_ft_ref, zm_ft_null, zm_ft_b0, zm_ft_b1, i_2, i_3, i_4, i_10, io_16, io_64, io_33, io_2, cF_ev, cF_bm, va_rf, cH_0, cH_1, cH_2, cH_3, cH_4, cH_5, uT4, uT5, uT6, uT7, uB1, uB2, uB3, uG, uV, mH_0, mH_1, mH_2, mH_3, mH_4, mH_5, mH_6, mH_7, mH_8, mH_9, mH_10, mH_11, mH_12, mH_13, mH_14, mH_15, mH_16, mH_17, mH_18, mH_19, mH_20, mH_21, vI0, vI1, vI2, vI3, vI5, vI17, vI18, vI19, vA4, vA6, vA7, vA8, vA9, vA10, vA11, vA12, vA13, vA14, vA15, vA16, vA20, vA21, vA22, vA23, vA24, vA25, vA26, vA27, vD, mI_tI, mA_tI, mD_tI, mI_tA, mD_tA, mI_tD, mA_tD, mD_tD]
      rw [hx]
      refine ⟨fun r => k93 _ (by rw [if_pos r]), fun r => ?_⟩
      refine zm_call.of (ctR_highest h64 ho g3) (Nat.le_refl _) (Nat.le_refl _) ?_
      simp only [zi_push, zi_ldi, zi_ldl, zi_lda, zi_sti, zi_stl, zi_sta, zi_inc, zi_b, zi_d, zi_u, zi_bl, zi_dl, zi_ul, zi_lcmp, zi_i2l, zi_l2i, zi_if, zi_ic, zi_nul, zi_dup, zi_pop, zi_dup_x1, zi_dup2, zi_gf, zi_pf, zi_ia, zi_is, zi_la, zi_lst, zi_aa, zi_as, zi_len, zi_new, zi_na, zi_mx, zi_mn, zi_sw, zi_swx, zi_cv, zi_cs, zi_ci, zi_obj, zi_iret, zi_lret, zi_zret, zi_aret, zi_vret, zm_s1, zm_s2, zm_k, zm_tk, zm_Rt, zm_is, List.getElem?_cons_zero, List.getElem?_cons_succ, List.set_cons_zero, List.set_cons_succ, List.length_cons, List.length_nil, List.map_cons, List.map_nil, List.sum_cons, List.sum_nil, List.nil_append, List.cons_append, Option.toList, Value.category, reduceIte, Nat.reduceAdd, Nat.reduceLeDiff, Nat.reduceLT, Nat.reduceEqDiff, Nat.reduceMul, and_true, true_and, and_self, Nat.zero_add, Nat.add_zero, Nat.le_refl, true_or, or_true, not_true_eq_false, not_false_eq_true, zm_ft_int, zm_ft_long, zm_ft_ref, zm_ft_null, zm_ft_b0, zm_ft_b1, i_2, i_3, i_4, i_10, io_16, io_64, io_33, io_2, cF_ev, cF_bm, va_rf, cH_0, cH_1, cH_2, cH_3, cH_4, cH_5, uT4, uT5, uT6, uT7, uB1, uB2, uB3, uG, uV, mH_0, mH_1, mH_2, mH_3, mH_4, mH_5, mH_6, mH_7, mH_8, mH_9, mH_10, mH_11, mH_12, mH_13, mH_14, mH_15, mH_16, mH_17, mH_18, mH_19, mH_20, mH_21, vI0, vI1, vI2, vI3, vI5, vI17, vI18, vI19, vA4, vA6, vA7, vA8, vA9, vA10, vA11, vA12, vA13, vA14, vA15, vA16, vA20, vA21, vA22, vA23, vA24, vA25, vA26, vA27, vD, mI_tI, mA_tI, mD_tI, mI_tA, mD_tA, mI_tD, mA_tD, mD_tD]
      exact k93 _ (by rw [if_neg r])
    have k66 : m_both C b k bo = 1 → zm_V w Γ 66 [some (.ref q), some (.int (nI b)), some (.int (cE C (cN C b 0) 8)), some (.int hi), some (.int lo), some (.int up), some (.int bo), some (.int (nI k)), some (.int (nI (cN C b k)))] [] (mH f q M, n) := by
      intro hx
      refine bkX4_direction_66 X _ _ _ ?_
      simp only [zi_push, zi_ldi, zi_ldl, zi_lda, zi_sti, zi_stl, zi_sta, zi_inc, zi_b, zi_d, zi_u, zi_bl, zi_dl, zi_ul, zi_lcmp, zi_i2l, zi_l2i, zi_if, zi_ic, zi_nul, zi_dup, zi_pop, zi_dup_x1, zi_dup2, zi_gf, zi_pf, zi_ia, zi_is, zi_la, zi_lst, zi_aa, zi_as, zi_len, zi_new, zi_na, zi_mx, zi_mn, zi_sw, zi_swx, zi_cv, zi_cs, zi_ci, zi_obj, zi_iret, zi_lret, zi_zret, zi_aret, zi_vret, zm_s1, zm_s2, zm_k, zm_tk, zm_Rt, zm_is, List.getElem?_cons_zero, List.getElem?_cons_succ, List.set_cons_zero, List.set_cons_succ, List.length_cons, List.length_nil, List.map_cons, List.map_nil, List.sum_cons, List.sum_nil, List.nil_append, List.cons_append, Option.toList, Value.category, reduceIte, Nat.reduceAdd, Nat.reduceLeDiff, Nat.reduceLT, Nat.reduceEqDiff, Nat.reduceMul, and_true, true_and, and_self, Nat.zero_add, Nat.add_zero, Nat.le_refl, true_or, or_true, not_true_eq_false, not_false_eq_true, zm_ft_int, zm_ft_long, zm_ft_ref, zm_ft_null, zm_ft_b0, zm_ft_b1, i_2, i_3, i_4, i_10, io_16, io_64, io_33, io_2, cF_ev, cF_bm, va_rf, cH_0, cH_1, cH_2, cH_3, cH_4, cH_5, uT4, uT5, uT6, uT7, uB1, uB2, uB3, uG, uV, mH_0, mH_1, mH_2, mH_3, mH_4, mH_5, mH_6, mH_7, mH_8, mH_9, mH_10, mH_11, mH_12, mH_13, mH_14, mH_15, mH_16, mH_17, mH_18, mH_19, mH_20, mH_21, vI0, vI1, vI2, vI3, vI5, vI17, vI18, vI19, vA4, vA6, vA7, vA8, vA9, vA10, vA11, vA12, vA13, vA14, vA15, vA16, vA20, vA21, vA22, vA23, vA24, vA25, vA26, vA27, vD, mI_tI, mA_tI, mD_tI, mI_tA, mD_tA, mI_tD, mA_tD, mD_tD]
      exact k71 1 hx.symm
    refine bkX4_direction_30 X _ _ _ ?_
    simp only [zi_push, zi_ldi, zi_ldl, zi_lda, zi_sti, zi_stl, zi_sta, zi_inc, zi_b, zi_d, zi_u, zi_bl, zi_dl, zi_ul, zi_lcmp, zi_i2l, zi_l2i, zi_if, zi_ic, zi_nul, zi_dup, zi_pop, zi_dup_x1, zi_dup2, zi_gf, zi_pf, zi_ia, zi_is, zi_la, zi_lst, zi_aa, zi_as, zi_len, zi_new, zi_na, zi_mx, zi_mn, zi_sw, zi_swx, zi_cv, zi_cs, zi_ci, zi_obj, zi_iret, zi_lret, zi_zret, zi_aret, zi_vret, zm_s1, zm_s2, zm_k, zm_tk, zm_Rt, zm_is, List.getElem?_cons_zero, List.getElem?_cons_succ, List.set_cons_zero, List.set_cons_succ, List.length_cons, List.length_nil, List.map_cons, List.map_nil, List.sum_cons, List.sum_nil, List.nil_append, List.cons_append, Option.toList, Value.category, reduceIte, Nat.reduceAdd, Nat.reduceLeDiff, Nat.reduceLT, Nat.reduceEqDiff, Nat.reduceMul, and_true, true_and, and_self, Nat.zero_add, Nat.add_zero, Nat.le_refl, true_or, or_true, not_true_eq_false, not_false_eq_true, zm_ft_int, zm_ft_long, zm_ft_ref, zm_ft_null, zm_ft_b0, zm_ft_b1, i_2, i_3, i_4, i_10, io_16, io_64, io_33, io_2, cF_ev, cF_bm, va_rf, cH_0, cH_1, cH_2, cH_3, cH_4, cH_5, uT4, uT5, uT6, uT7, uB1, uB2, uB3, uG, uV, mH_0, mH_1, mH_2, mH_3, mH_4, mH_5, mH_6, mH_7, mH_8, mH_9, mH_10, mH_11, mH_12, mH_13, mH_14, mH_15, mH_16, mH_17, mH_18, mH_19, mH_20, mH_21, vI0, vI1, vI2, vI3, vI5, vI17, vI18, vI19, vA4, vA6, vA7, vA8, vA9, vA10, vA11, vA12, vA13, vA14, vA15, vA16, vA20, vA21, vA22, vA23, vA24, vA25, vA26, vA27, vD, mI_tI, mA_tI, mD_tI, mI_tA, mD_tA, mI_tD, mA_tD, mD_tD, nI_clamp (show b < 2 ^ 31 by omega), hb.2.2.1]
    refine ⟨vp_in_nI (by omega) (by decide), fun r => absurd r (nI_ge (by omega) (by omega)), fun _ => ?_⟩
    refine zm_call.of (ctR_noteAt hb hk) (Nat.le_refl _) (Nat.le_refl _) ?_
    simp only [zi_push, zi_ldi, zi_ldl, zi_lda, zi_sti, zi_stl, zi_sta, zi_inc, zi_b, zi_d, zi_u, zi_bl, zi_dl, zi_ul, zi_lcmp, zi_i2l, zi_l2i, zi_if, zi_ic, zi_nul, zi_dup, zi_pop, zi_dup_x1, zi_dup2, zi_gf, zi_pf, zi_ia, zi_is, zi_la, zi_lst, zi_aa, zi_as, zi_len, zi_new, zi_na, zi_mx, zi_mn, zi_sw, zi_swx, zi_cv, zi_cs, zi_ci, zi_obj, zi_iret, zi_lret, zi_zret, zi_aret, zi_vret, zm_s1, zm_s2, zm_k, zm_tk, zm_Rt, zm_is, List.getElem?_cons_zero, List.getElem?_cons_succ, List.set_cons_zero, List.set_cons_succ, List.length_cons, List.length_nil, List.map_cons, List.map_nil, List.sum_cons, List.sum_nil, List.nil_append, List.cons_append, Option.toList, Value.category, reduceIte, Nat.reduceAdd, Nat.reduceLeDiff, Nat.reduceLT, Nat.reduceEqDiff, Nat.reduceMul, and_true, true_and, and_self, Nat.zero_add, Nat.add_zero, Nat.le_refl, true_or, or_true, not_true_eq_false, not_false_eq_true, zm_ft_int, zm_ft_long, zm_ft_ref, zm_ft_null, zm_ft_b0, zm_ft_b1, i_2, i_3, i_4, i_10, io_16, io_64, io_33, io_2, cF_ev, cF_bm, va_rf, cH_0, cH_1, cH_2, cH_3, cH_4, cH_5, uT4, uT5, uT6, uT7, uB1, uB2, uB3, uG, uV, mH_0, mH_1, mH_2, mH_3, mH_4, mH_5, mH_6, mH_7, mH_8, mH_9, mH_10, mH_11, mH_12, mH_13, mH_14, mH_15, mH_16, mH_17, mH_18, mH_19, mH_20, mH_21, vI0, vI1, vI2, vI3, vI5, vI17, vI18, vI19, vA4, vA6, vA7, vA8, vA9, vA10, vA11, vA12, vA13, vA14, vA15, vA16, vA20, vA21, vA22, vA23, vA24, vA25, vA26, vA27, vD, mI_tI, mA_tI, mD_tI, mI_tA, mD_tA, mI_tD, mA_tD, mD_tD, nI_clamp (show cN C b k < 2 ^ 31 by omega), ho.1.2.2.2.2.1]
    refine ⟨fun r => ⟨vp_in_nI (by omega) (by decide), fun t => k71 0 ?_, fun t => k66 ?_⟩, fun r => k66 ?_⟩
    · rw [m_both, if_pos r, if_pos t]
    · rw [m_both, if_pos r, if_neg t]
    · rw [m_both, if_neg r]
  have key : ∀ (m k : Nat) (t : Int32 × Int32 × Int32) (bo : Int32) (r8 : Option Value), k + m = csz C b → inR t.1 (-12) 12 → inR t.2.1 (-12) 12 → itr (m_both C b) m k bo = itr (m_both C b) (csz C b - 1) 1 0 → (c_two C = 0 → m_whE (itr (m_wh C b) m k t) = m_byH C b (csz C b)) → zm_V w Γ 30 [some (.ref q), some (.int (nI b)), some (.int (cE C (cN C b 0) 8)), some (.int (2 * t.2.1)), some (.int (2 * t.1)), some (.int t.2.2), some (.int bo), some (.int (nI k)), r8] [] (mH f q M, n) := by
    intro m
    induction m with
    | zero =>
      intro k t bo r8 h1 h2 h3 h4 h5
      refine bkX4_direction_30 X _ _ _ ?_
      simp only [zi_push, zi_ldi, zi_ldl, zi_lda, zi_sti, zi_stl, zi_sta, zi_inc, zi_b, zi_d, zi_u, zi_bl, zi_dl, zi_ul, zi_lcmp, zi_i2l, zi_l2i, zi_if, zi_ic, zi_nul, zi_dup, zi_pop, zi_dup_x1, zi_dup2, zi_gf, zi_pf, zi_ia, zi_is, zi_la, zi_lst, zi_aa, zi_as, zi_len, zi_new, zi_na, zi_mx, zi_mn, zi_sw, zi_swx, zi_cv, zi_cs, zi_ci, zi_obj, zi_iret, zi_lret, zi_zret, zi_aret, zi_vret, zm_s1, zm_s2, zm_k, zm_tk, zm_Rt, zm_is, List.getElem?_cons_zero, List.getElem?_cons_succ, List.set_cons_zero, List.set_cons_succ, List.length_cons, List.length_nil, List.map_cons, List.map_nil, List.sum_cons, List.sum_nil, List.nil_append, List.cons_append, Option.toList, Value.category, reduceIte, Nat.reduceAdd, Nat.reduceLeDiff, Nat.reduceLT, Nat.reduceEqDiff, Nat.reduceMul, and_true, true_and, and_self, Nat.zero_add, Nat.add_zero, Nat.le_refl, true_or, or_true, not_true_eq_false, not_false_eq_true, zm_ft_int, zm_ft_long, zm_ft_ref, zm_ft_null, zm_ft_b0, zm_ft_b1, i_2, i_3, i_4, i_10, io_16, io_64, io_33, io_2, cF_ev, cF_bm, va_rf, cH_0, cH_1, cH_2, cH_3, cH_4, cH_5, uT4, uT5, uT6, uT7, uB1, uB2, uB3, uG, uV, mH_0, mH_1, mH_2, mH_3, mH_4, mH_5, mH_6, mH_7, mH_8, mH_9, mH_10, mH_11, mH_12, mH_13, mH_14, mH_15, mH_16, mH_17, mH_18, mH_19, mH_20, mH_21, vI0, vI1, vI2, vI3, vI5, vI17, vI18, vI19, vA4, vA6, vA7, vA8, vA9, vA10, vA11, vA12, vA13, vA14, vA15, vA16, vA20, vA21, vA22, vA23, vA24, vA25, vA26, vA27, vD, mI_tI, mA_tI, mD_tI, mI_tA, mD_tA, mI_tD, mA_tD, mD_tD, nI_clamp (show b < 2 ^ 31 by omega), hb.2.2.1, show (1 : Int32).toNatClampNeg = 1 from rfl, hV]
      refine ⟨vp_in_nI (by omega) (by decide), fun _ => ⟨fun r => ⟨vp_in_nI (n := 1) (by decide) (by decide), fun u => ?_, fun u => ?_⟩, fun r => ?_⟩, fun r => absurd (nI_le (by omega) (by omega)) r⟩
      · have e2 : c_two C = 0 := by rw [c_two, if_pos u]
        have e3 := h5 e2
        rw [itr] at e3 h4
        have e4 := whE_eq (u := t.2.2) h2 h3
        have e5 : m_way C b (csz C b) (c_two C) = m_whE t := by
          rw [m_way, if_pos (by rw [← h4]; exact r), e2, if_pos rfl, ← e3]
        rw [e5]
        rw [show (t.1, t.2.1, t.2.2) = t from rfl] at e4
        rw [← e4]
        refine ⟨fun v => ⟨fun x => ⟨fun y => ?_, fun y => ?_⟩, fun x => ?_⟩, fun v => ?_⟩
        · rw [if_pos v, if_pos x, if_pos y]
        · rw [if_pos v, if_pos x, if_neg y]
        · rw [if_pos v, if_neg x]
        · rw [if_neg v]
      · have e2 : c_two C = 1 := by rw [c_two, if_neg u]
        refine zm_call.of (ctR_noteAt hb (k := 0) (by omega)) (Nat.le_refl _) (Nat.le_refl _) ?_
        simp only [zi_push, zi_ldi, zi_ldl, zi_lda, zi_sti, zi_stl, zi_sta, zi_inc, zi_b, zi_d, zi_u, zi_bl, zi_dl, zi_ul, zi_lcmp, zi_i2l, zi_l2i, zi_if, zi_ic, zi_nul, zi_dup, zi_pop, zi_dup_x1, zi_dup2, zi_gf, zi_pf, zi_ia, zi_is, zi_la, zi_lst, zi_aa, zi_as, zi_len, zi_new, zi_na, zi_mx, zi_mn, zi_sw, zi_swx, zi_cv, zi_cs, zi_ci, zi_obj, zi_iret, zi_lret, zi_zret, zi_aret, zi_vret, zm_s1, zm_s2, zm_k, zm_tk, zm_Rt, zm_is, List.getElem?_cons_zero, List.getElem?_cons_succ, List.set_cons_zero, List.set_cons_succ, List.length_cons, List.length_nil, List.map_cons, List.map_nil, List.sum_cons, List.sum_nil, List.nil_append, List.cons_append, Option.toList, Value.category, reduceIte, Nat.reduceAdd, Nat.reduceLeDiff, Nat.reduceLT, Nat.reduceEqDiff, Nat.reduceMul, and_true, true_and, and_self, Nat.zero_add, Nat.add_zero, Nat.le_refl, true_or, or_true, not_true_eq_false, not_false_eq_true, zm_ft_int, zm_ft_long, zm_ft_ref, zm_ft_null, zm_ft_b0, zm_ft_b1, i_2, i_3, i_4, i_10, io_16, io_64, io_33, io_2, cF_ev, cF_bm, va_rf, cH_0, cH_1, cH_2, cH_3, cH_4, cH_5, uT4, uT5, uT6, uT7, uB1, uB2, uB3, uG, uV, mH_0, mH_1, mH_2, mH_3, mH_4, mH_5, mH_6, mH_7, mH_8, mH_9, mH_10, mH_11, mH_12, mH_13, mH_14, mH_15, mH_16, mH_17, mH_18, mH_19, mH_20, mH_21, vI0, vI1, vI2, vI3, vI5, vI17, vI18, vI19, vA4, vA6, vA7, vA8, vA9, vA10, vA11, vA12, vA13, vA14, vA15, vA16, vA20, vA21, vA22, vA23, vA24, vA25, vA26, vA27, vD, mI_tI, mA_tI, mD_tI, mI_tA, mD_tA, mI_tD, mA_tD, mD_tD]
        refine zm_call.of (ctR_alone (show cN C b 0 < 64 by have := (hb.2.2.2 0 (by omega)).2.1; omega) (he.2.2 _ (hb.2.2.2 0 (by omega)).2.1) (hb.2.2.2 0 (by omega)).2.2.1 hV) (Nat.le_refl _) (Nat.le_refl _) ?_
        simp only [zi_push, zi_ldi, zi_ldl, zi_lda, zi_sti, zi_stl, zi_sta, zi_inc, zi_b, zi_d, zi_u, zi_bl, zi_dl, zi_ul, zi_lcmp, zi_i2l, zi_l2i, zi_if, zi_ic, zi_nul, zi_dup, zi_pop, zi_dup_x1, zi_dup2, zi_gf, zi_pf, zi_ia, zi_is, zi_la, zi_lst, zi_aa, zi_as, zi_len, zi_new, zi_na, zi_mx, zi_mn, zi_sw, zi_swx, zi_cv, zi_cs, zi_ci, zi_obj, zi_iret, zi_lret, zi_zret, zi_aret, zi_vret, zm_s1, zm_s2, zm_k, zm_tk, zm_Rt, zm_is, List.getElem?_cons_zero, List.getElem?_cons_succ, List.set_cons_zero, List.set_cons_succ, List.length_cons, List.length_nil, List.map_cons, List.map_nil, List.sum_cons, List.sum_nil, List.nil_append, List.cons_append, Option.toList, Value.category, reduceIte, Nat.reduceAdd, Nat.reduceLeDiff, Nat.reduceLT, Nat.reduceEqDiff, Nat.reduceMul, and_true, true_and, and_self, Nat.zero_add, Nat.add_zero, Nat.le_refl, true_or, or_true, not_true_eq_false, not_false_eq_true, zm_ft_int, zm_ft_long, zm_ft_ref, zm_ft_null, zm_ft_b0, zm_ft_b1, i_2, i_3, i_4, i_10, io_16, io_64, io_33, io_2, cF_ev, cF_bm, va_rf, cH_0, cH_1, cH_2, cH_3, cH_4, cH_5, uT4, uT5, uT6, uT7, uB1, uB2, uB3, uG, uV, mH_0, mH_1, mH_2, mH_3, mH_4, mH_5, mH_6, mH_7, mH_8, mH_9, mH_10, mH_11, mH_12, mH_13, mH_14, mH_15, mH_16, mH_17, mH_18, mH_19, mH_20, mH_21, vI0, vI1, vI2, vI3, vI5, vI17, vI18, vI19, vA4, vA6, vA7, vA8, vA9, vA10, vA11, vA12, vA13, vA14, vA15, vA16, vA20, vA21, vA22, vA23, vA24, vA25, vA26, vA27, vD, mI_tI, mA_tI, mD_tI, mI_tA, mD_tA, mI_tD, mA_tD, mD_tD]
        rw [itr] at h4
        rw [m_way, if_pos (by rw [← h4]; exact r), e2, if_neg (by decide)]
      · rw [itr] at h4
        rw [m_way, if_neg (by rw [← h4]; exact r)]
    | succ m ih =>
      intro k t bo r8 h1 h2 h3 h4 h5
      have hk : k < csz C b := by omega
      obtain ⟨g1, g2, g3, g4⟩ := hb.2.2.2 k hk
      have ho := (he.2.2 _ g2).2.1.2.2.2 g3
      refine it k _ _ _ _ _ hk ?_
      rw [(hi2 ho.2 h3).1, (hi2 ho.1 h2).2]
      rw [itr] at h4
      refine ih (k + 1) (m_whT C b (c_two C) k t) _ _ (by omega) (inR_if ho.1 h2 _) (inR_if ho.2 h3 _) h4 ?_
      intro e
      rw [e]
      exact h5 e
  refine bkX4_direction_0 X [some (.ref q), some (.int (nI b)), none, none, none, none, none, none, none] [] _ ?_
  simp only [zi_push, zi_ldi, zi_ldl, zi_lda, zi_sti, zi_stl, zi_sta, zi_inc, zi_b, zi_d, zi_u, zi_bl, zi_dl, zi_ul, zi_lcmp, zi_i2l, zi_l2i, zi_if, zi_ic, zi_nul, zi_dup, zi_pop, zi_dup_x1, zi_dup2, zi_gf, zi_pf, zi_ia, zi_is, zi_la, zi_lst, zi_aa, zi_as, zi_len, zi_new, zi_na, zi_mx, zi_mn, zi_sw, zi_swx, zi_cv, zi_cs, zi_ci, zi_obj, zi_iret, zi_lret, zi_zret, zi_aret, zi_vret, zm_s1, zm_s2, zm_k, zm_tk, zm_Rt, zm_is, List.getElem?_cons_zero, List.getElem?_cons_succ, List.set_cons_zero, List.set_cons_succ, List.length_cons, List.length_nil, List.map_cons, List.map_nil, List.sum_cons, List.sum_nil, List.nil_append, List.cons_append, Option.toList, Value.category, reduceIte, Nat.reduceAdd, Nat.reduceLeDiff, Nat.reduceLT, Nat.reduceEqDiff, Nat.reduceMul, and_true, true_and, and_self, Nat.zero_add, Nat.add_zero, Nat.le_refl, true_or, or_true, not_true_eq_false, not_false_eq_true, zm_ft_int, zm_ft_long, zm_ft_ref, zm_ft_null, zm_ft_b0, zm_ft_b1, i_2, i_3, i_4, i_10, io_16, io_64, io_33, io_2, cF_ev, cF_bm, va_rf, cH_0, cH_1, cH_2, cH_3, cH_4, cH_5, uT4, uT5, uT6, uT7, uB1, uB2, uB3, uG, uV, mH_0, mH_1, mH_2, mH_3, mH_4, mH_5, mH_6, mH_7, mH_8, mH_9, mH_10, mH_11, mH_12, mH_13, mH_14, mH_15, mH_16, mH_17, mH_18, mH_19, mH_20, mH_21, vI0, vI1, vI2, vI3, vI5, vI17, vI18, vI19, vA4, vA6, vA7, vA8, vA9, vA10, vA11, vA12, vA13, vA14, vA15, vA16, vA20, vA21, vA22, vA23, vA24, vA25, vA26, vA27, vD, mI_tI, mA_tI, mD_tI, mI_tA, mD_tA, mI_tD, mA_tD, mD_tD]
  refine zm_call.of (ctR_noteAt hb (k := 0) (by omega)) (Nat.le_refl _) (Nat.le_refl _) ?_
  obtain ⟨g1, g2, g3, g4⟩ := hb.2.2.2 0 (by omega)
  have ho := (he.2.2 _ g2).2.1.2.2.2 g3
  simp only [zi_push, zi_ldi, zi_ldl, zi_lda, zi_sti, zi_stl, zi_sta, zi_inc, zi_b, zi_d, zi_u, zi_bl, zi_dl, zi_ul, zi_lcmp, zi_i2l, zi_l2i, zi_if, zi_ic, zi_nul, zi_dup, zi_pop, zi_dup_x1, zi_dup2, zi_gf, zi_pf, zi_ia, zi_is, zi_la, zi_lst, zi_aa, zi_as, zi_len, zi_new, zi_na, zi_mx, zi_mn, zi_sw, zi_swx, zi_cv, zi_cs, zi_ci, zi_obj, zi_iret, zi_lret, zi_zret, zi_aret, zi_vret, zm_s1, zm_s2, zm_k, zm_tk, zm_Rt, zm_is, List.getElem?_cons_zero, List.getElem?_cons_succ, List.set_cons_zero, List.set_cons_succ, List.length_cons, List.length_nil, List.map_cons, List.map_nil, List.sum_cons, List.sum_nil, List.nil_append, List.cons_append, Option.toList, Value.category, reduceIte, Nat.reduceAdd, Nat.reduceLeDiff, Nat.reduceLT, Nat.reduceEqDiff, Nat.reduceMul, and_true, true_and, and_self, Nat.zero_add, Nat.add_zero, Nat.le_refl, true_or, or_true, not_true_eq_false, not_false_eq_true, zm_ft_int, zm_ft_long, zm_ft_ref, zm_ft_null, zm_ft_b0, zm_ft_b1, i_2, i_3, i_4, i_10, io_16, io_64, io_33, io_2, cF_ev, cF_bm, va_rf, cH_0, cH_1, cH_2, cH_3, cH_4, cH_5, uT4, uT5, uT6, uT7, uB1, uB2, uB3, uG, uV, mH_0, mH_1, mH_2, mH_3, mH_4, mH_5, mH_6, mH_7, mH_8, mH_9, mH_10, mH_11, mH_12, mH_13, mH_14, mH_15, mH_16, mH_17, mH_18, mH_19, mH_20, mH_21, vI0, vI1, vI2, vI3, vI5, vI17, vI18, vI19, vA4, vA6, vA7, vA8, vA9, vA10, vA11, vA12, vA13, vA14, vA15, vA16, vA20, vA21, vA22, vA23, vA24, vA25, vA26, vA27, vD, mI_tI, mA_tI, mD_tI, mI_tA, mD_tA, mI_tD, mA_tD, mD_tD, nI_clamp (show cN C b 0 < 2 ^ 31 by omega), (he.2.2 _ g2).1.2.2.2.2.1]
  refine ⟨vp_in_nI (by omega) (by decide), ?_⟩
  refine it 0 _ _ _ _ _ (by omega) ?_
  rw [if_neg (hi0 ho.2).1, if_neg (hi0 ho.1).2, show m_both C b 0 0 = 0 by rw [m_both, if_pos rfl, if_pos rfl]]
  refine key (csz C b - 1) 1 (cE C (cN C b 0) 6, cE C (cN C b 0) 7, 0 + e_alone C (cN C b 0) (c_two C)) 0 _ (by omega) ho.1 ho.2 rfl ?_
  intro e
  have : m_wh C b 0 (cE C (cN C b 0) 6, cE C (cN C b 0) 7, 0) = (cE C (cN C b 0) 6, cE C (cN C b 0) 7, 0 + e_alone C (cN C b 0) 0) := by
    unfold m_wh
    dsimp only
    rw [if_neg (Int32.lt_irrefl), if_neg (Int32.lt_irrefl)]
  rw [e, ← this, m_byH]
  have e1 : csz C b = csz C b - 1 + 1 := by omega
  rw [e1, itr]
  rfl
end
