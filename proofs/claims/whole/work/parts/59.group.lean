def togP (D : cS) (gc l i : Nat) : Prop := c_bar D (cE D l 3) = c_bar D (cE D i 3) ∧ nI (c_grp D gc (cE D l 3)) = nI (c_grp D gc (cE D i 3))
theorem goes_0 {D : cS} {gc j S i : Nat} (h : cE D i 2 < 3 ∨ S = 0) : c_goes D gc j S i = 0 := by
  unfold c_goes
  rcases h with h | h
  · rw [if_pos h]
  · split
    · rfl
    · split
      · rfl
      · rfl
theorem goes_iff {D : cS} {gc j S i l : Nat} (h2 : ¬ cE D i 2 < 3) (hS : 0 < S) (hl : cN D j (S - 1) = l) : c_goes D gc j S i = 0 ↔ (cE D i 9 = 1 ∨ 16 ≤ S ∨ ¬ (togP D gc l i ∨ cE D i 9 = 2)) := by
  unfold c_goes
  rw [if_neg h2, hl]
  by_cases h9 : cE D i 9 = 1
  · rw [if_pos h9]
    exact iff_of_true rfl (Or.inl h9)
  · rw [if_neg h9, if_neg (by omega)]
    by_cases h16 : 16 ≤ S
    · rw [if_pos h16]
      exact iff_of_true rfl (Or.inr (Or.inl h16))
    · rw [if_neg h16]
      by_cases ht : togP D gc l i
      · rw [if_pos (show c_bar D (cE D l 3) = c_bar D (cE D i 3) ∧ nI (c_grp D gc (cE D l 3)) = nI (c_grp D gc (cE D i 3)) from ht)]
        refine iff_of_false (by decide) ?_
        rintro (h | h | h)
        · exact h9 h
        · exact h16 h
        · exact h (Or.inl ht)
      · rw [if_neg (show ¬ (c_bar D (cE D l 3) = c_bar D (cE D i 3) ∧ nI (c_grp D gc (cE D l 3)) = nI (c_grp D gc (cE D i 3))) from ht)]
        by_cases h92 : cE D i 9 = 2
        · rw [if_pos h92]
          refine iff_of_false (by decide) ?_
          rintro (h | h | h)
          · exact h9 h
          · exact h16 h
          · exact h (Or.inr h92)
        · rw [if_neg h92]
          refine iff_of_true rfl (Or.inr (Or.inr ?_))
          rintro (h | h)
          · exact ht h
          · exact h92 h
section
variable {w : zW} {f : Nat → Option zO} {q : Nat} {M : mS} {n : Nat × Nat} {C D : cS} {ec gc c0 i j : Nat} {v rc la rs lg : Int32} {Γ : zC} {Rt : zR}
theorem gstep (X : zm_X w Γ mX4_group n.1 n.2 Rt) (hk : kR C D M ec gc v c0 i j rc la rs lg) (hi : i < ec) (hec : ec ≤ 64) (hcnt : c0 + cvN (cE C) v ec ≤ 64) (r7 r8 : Option Value) (hnext : ∀ r7 r8 : Option Value, zm_V w Γ 35 [some (.ref q), some (.int v), some (.int (k_la D v i la)), some (.int (k_rs D v i rs)), some (.int (k_lg D v i lg)), some (.int (nI (csz (c_gvK v gc i (D, j, rc)).1 (c_gvK v gc i (D, j, rc)).2.1))), some (.int (nI (i + 1))), r7, r8] [] (mH f q (r_gvM v gc i (D, j, rc) M), n)) : zm_V w Γ 35 [some (.ref q), some (.int v), some (.int la), some (.int rs), some (.int lg), some (.int (nI (csz D j))), some (.int (nI i)), r7, r8] [] (mH f q M, n) := by
  have hk' := hk
  obtain ⟨k1, k2, k3, k4, k5, k6⟩ := hk
  obtain ⟨⟨r1, r2, r3, r4, r5, r6, r7', r8', r9, r10⟩, hb0, -, -, -, -⟩ := id k3
  have ho := (r6.2.2 i hi).1
  have hci : (nI i).toNatClampNeg = i := nI_clamp (by omega)
  have hS := hb0.2.1
  have e6 : ((if cE D i 5 = 0 then (1 : Int32) else 0) = 1) ↔ cE D i 5 = 0 := by
    by_cases h : cE D i 5 = 0
    · rw [if_pos h]; exact iff_of_true rfl h
    · rw [if_neg h]; exact iff_of_false (by decide) h
  have hbar : ¬ cB D 2 = 0 := fun h => r7'.2.2.2.2.2.1 (by rw [h]; decide)
  obtain ⟨c1, c2, c3, c4, c5, c6⟩ := choose_q hk' hi hec hcnt
  -- behind the choice of the row
  have k262 : cE D i 1 = v → ¬ cE D i 5 = 0 → ∀ g7 g8 : Option Value, zm_V w Γ 262 [some (.ref q), some (.int v), some (.int la), some (.int rs), some (.int lg), some (.int (nI (csz (c_gvT v gc i (D, j, rc)).1 (c_gvT v gc i (D, j, rc)).2))), some (.int (nI i)), g7, g8] [] (mH f q (r_gvE gc i (D, j, rc) M), n) := by
    intro hv hn g7 g8
    obtain ⟨⟨u1, u2, u3, u4, u5, u6, u7, u8, u9, u10⟩, ub, -, -, -, -⟩ := c3
    have uo := (u6.2.2 i hi).1
    have e2 : cE (c_gvT v gc i (D, j, rc)).1 i 2 = cE D i 2 := c4 i 2 (by omega)
    have hK : c_gvK v gc i (D, j, rc) = ((if cE (c_gvT v gc i (D, j, rc)).1 i 2 < 3 then (c_gvT v gc i (D, j, rc)).1 else c_add (c_gvT v gc i (D, j, rc)).1 (c_gvT v gc i (D, j, rc)).2 i), (c_gvT v gc i (D, j, rc)).2, 1) := by
      simp only [c_gvK]
      rw [if_pos hv, if_neg hn]
    have hM : r_gvM v gc i (D, j, rc) M = (if cE (c_gvT v gc i (D, j, rc)).1 i 2 < 3 then r_gvE gc i (D, j, rc) M else tA (r_gvE gc i (D, j, rc) M) 21 (16 * (c_gvT v gc i (D, j, rc)).2 + csz (c_gvT v gc i (D, j, rc)).1 (c_gvT v gc i (D, j, rc)).2) (nI i)) := by
      simp only [r_gvM]
      rw [if_pos hv, if_neg hn]
    rw [hK, hM] at hnext
    unfold k_la k_rs k_lg at hnext
    rw [if_pos hv, if_neg hn, if_pos hv, if_neg hn, if_pos hv, if_neg hn] at hnext
    dsimp only at hnext
    refine bkX4_group_262 X _ _ _ ?_
    simp only [zi_push, zi_ldi, zi_ldl, zi_lda, zi_sti, zi_stl, zi_sta, zi_inc, zi_b, zi_d, zi_u, zi_bl, zi_dl, zi_ul, zi_lcmp, zi_i2l, zi_l2i, zi_if, zi_ic, zi_nul, zi_dup, zi_pop, zi_dup_x1, zi_dup2, zi_gf, zi_pf, zi_ia, zi_is, zi_la, zi_lst, zi_aa, zi_as, zi_len, zi_new, zi_na, zi_mx, zi_mn, zi_sw, zi_swx, zi_cv, zi_cs, zi_ci, zi_obj, zi_iret, zi_lret, zi_zret, zi_aret, zi_vret, zm_s1, zm_s2, zm_k, zm_tk, zm_Rt, zm_is, List.getElem?_cons_zero, List.getElem?_cons_succ, List.set_cons_zero, List.set_cons_succ, List.length_cons, List.length_nil, List.map_cons, List.map_nil, List.sum_cons, List.sum_nil, List.nil_append, List.cons_append, Option.toList, Value.category, reduceIte, Nat.reduceAdd, Nat.reduceLeDiff, Nat.reduceLT, Nat.reduceEqDiff, Nat.reduceMul, and_true, true_and, and_self, Nat.zero_add, Nat.add_zero, Nat.le_refl, true_or, or_true, not_true_eq_false, not_false_eq_true, zm_ft_int, zm_ft_long, zm_ft_ref, zm_ft_null, zm_ft_b0, zm_ft_b1, i_2, i_3, i_4, i_10, io_16, io_64, io_33, io_2, cF_ev, cF_bm, va_rf, cH_0, cH_1, cH_2, cH_3, cH_4, cH_5, uT4, uT5, uT6, uT7, uB1, uB2, uB3, uG, uV, mH_0, mH_1, mH_2, mH_3, mH_4, mH_5, mH_6, mH_7, mH_8, mH_9, mH_10, mH_11, mH_12, mH_13, mH_14, mH_15, mH_16, mH_17, mH_18, mH_19, mH_20, mH_21, vI0, vI1, vI2, vI3, vI5, vI17, vI18, vI19, vA4, vA6, vA7, vA8, vA9, vA10, vA11, vA12, vA13, vA14, vA15, vA16, vA20, vA21, vA22, vA23, vA24, vA25, vA26, vA27, vD, hci, uo.2.1, e2, u4, n16, nI_add]
    refine ⟨vp_in_nI (by omega) (by decide), ?_⟩
    refine zm_call.of (ctR_isShort _) (Nat.le_refl _) (Nat.le_refl _) ?_
    simp only [zi_push, zi_ldi, zi_ldl, zi_lda, zi_sti, zi_stl, zi_sta, zi_inc, zi_b, zi_d, zi_u, zi_bl, zi_dl, zi_ul, zi_lcmp, zi_i2l, zi_l2i, zi_if, zi_ic, zi_nul, zi_dup, zi_pop, zi_dup_x1, zi_dup2, zi_gf, zi_pf, zi_ia, zi_is, zi_la, zi_lst, zi_aa, zi_as, zi_len, zi_new, zi_na, zi_mx, zi_mn, zi_sw, zi_swx, zi_cv, zi_cs, zi_ci, zi_obj, zi_iret, zi_lret, zi_zret, zi_aret, zi_vret, zm_s1, zm_s2, zm_k, zm_tk, zm_Rt, zm_is, List.getElem?_cons_zero, List.getElem?_cons_succ, List.set_cons_zero, List.set_cons_succ, List.length_cons, List.length_nil, List.map_cons, List.map_nil, List.sum_cons, List.sum_nil, List.nil_append, List.cons_append, Option.toList, Value.category, reduceIte, Nat.reduceAdd, Nat.reduceLeDiff, Nat.reduceLT, Nat.reduceEqDiff, Nat.reduceMul, and_true, true_and, and_self, Nat.zero_add, Nat.add_zero, Nat.le_refl, true_or, or_true, not_true_eq_false, not_false_eq_true, zm_ft_int, zm_ft_long, zm_ft_ref, zm_ft_null, zm_ft_b0, zm_ft_b1, i_2, i_3, i_4, i_10, io_16, io_64, io_33, io_2, cF_ev, cF_bm, va_rf, cH_0, cH_1, cH_2, cH_3, cH_4, cH_5, uT4, uT5, uT6, uT7, uB1, uB2, uB3, uG, uV, mH_0, mH_1, mH_2, mH_3, mH_4, mH_5, mH_6, mH_7, mH_8, mH_9, mH_10, mH_11, mH_12, mH_13, mH_14, mH_15, mH_16, mH_17, mH_18, mH_19, mH_20, mH_21, vI0, vI1, vI2, vI3, vI5, vI17, vI18, vI19, vA4, vA6, vA7, vA8, vA9, vA10, vA11, vA12, vA13, vA14, vA15, vA16, vA20, vA21, vA22, vA23, vA24, vA25, vA26, vA27, vD, zb_eq1, nI_1, hci, nI_clamp (show 16 * (c_gvT v gc i (D, j, rc)).2 + csz (c_gvT v gc i (D, j, rc)).1 (c_gvT v gc i (D, j, rc)).2 < 2 ^ 31 by have := ub.1; have := ub.2.1; omega), u4, n16, nI_add]
    refine ⟨fun p => ?_, fun p => ⟨vp_in_nI (by have := ub.1; have := ub.2.1; omega) (by decide), ?_⟩⟩
    · have hs : cE (c_gvT v gc i (D, j, rc)).1 i 2 < 3 := by rw [e2]; exact Classical.not_not.mp p
      rw [if_pos hs, if_pos hs] at hnext
      exact hnext _ _
    · have hs : ¬ cE (c_gvT v gc i (D, j, rc)).1 i 2 < 3 := by rw [e2]; exact fun h => p (fun g => g h)
      rw [if_neg hs, if_neg hs] at hnext
      have hz : csz (c_add (c_gvT v gc i (D, j, rc)).1 (c_gvT v gc i (D, j, rc)).2 i) (c_gvT v gc i (D, j, rc)).2 = csz (c_gvT v gc i (D, j, rc)).1 (c_gvT v gc i (D, j, rc)).2 + 1 := by
        have hlt : csz (c_gvT v gc i (D, j, rc)).1 (c_gvT v gc i (D, j, rc)).2 < 16 := by
          by_cases hg : rc = 0 ∨ c_goes D gc j (csz D j) i = 0
          · have := (c1 hg).2.2
            omega
          · obtain ⟨d1, -, d2, d3, d4⟩ := c2 hg
            rw [d1]
            exact d2
        refine csz_of ?_ (by omega)
        unfold c_add
        rw [if_pos hlt, cM_sM, up2_eq, if_pos rfl]
      rw [hz] at hnext
      exact hnext _ _
  have k245 : cE D i 1 = v → ¬ cE D i 5 = 0 → (rc = 0 ∨ c_goes D gc j (csz D j) i = 0) → ∀ g7 g8 : Option Value, zm_V w Γ 245 [some (.ref q), some (.int v), some (.int la), some (.int rs), some (.int lg), some (.int (nI (csz D j))), some (.int (nI i)), g7, g8] [] (mH f q M, n) := by
    intro hv hn hg g7 g8
    refine bkX4_group_245 X _ _ _ ?_
    simp only [zi_push, zi_ldi, zi_ldl, zi_lda, zi_sti, zi_stl, zi_sta, zi_inc, zi_b, zi_d, zi_u, zi_bl, zi_dl, zi_ul, zi_lcmp, zi_i2l, zi_l2i, zi_if, zi_ic, zi_nul, zi_dup, zi_pop, zi_dup_x1, zi_dup2, zi_gf, zi_pf, zi_ia, zi_is, zi_la, zi_lst, zi_aa, zi_as, zi_len, zi_new, zi_na, zi_mx, zi_mn, zi_sw, zi_swx, zi_cv, zi_cs, zi_ci, zi_obj, zi_iret, zi_lret, zi_zret, zi_aret, zi_vret, zm_s1, zm_s2, zm_k, zm_tk, zm_Rt, zm_is, List.getElem?_cons_zero, List.getElem?_cons_succ, List.set_cons_zero, List.set_cons_succ, List.length_cons, List.length_nil, List.map_cons, List.map_nil, List.sum_cons, List.sum_nil, List.nil_append, List.cons_append, Option.toList, Value.category, reduceIte, Nat.reduceAdd, Nat.reduceLeDiff, Nat.reduceLT, Nat.reduceEqDiff, Nat.reduceMul, and_true, true_and, and_self, Nat.zero_add, Nat.add_zero, Nat.le_refl, true_or, or_true, not_true_eq_false, not_false_eq_true, zm_ft_int, zm_ft_long, zm_ft_ref, zm_ft_null, zm_ft_b0, zm_ft_b1, i_2, i_3, i_4, i_10, io_16, io_64, io_33, io_2, cF_ev, cF_bm, va_rf, cH_0, cH_1, cH_2, cH_3, cH_4, cH_5, uT4, uT5, uT6, uT7, uB1, uB2, uB3, uG, uV, mH_0, mH_1, mH_2, mH_3, mH_4, mH_5, mH_6, mH_7, mH_8, mH_9, mH_10, mH_11, mH_12, mH_13, mH_14, mH_15, mH_16, mH_17, mH_18, mH_19, mH_20, mH_21, vI0, vI1, vI2, vI3, vI5, vI17, vI18, vI19, vA4, vA6, vA7, vA8, vA9, vA10, vA11, vA12, vA13, vA14, vA15, vA16, vA20, vA21, vA22, vA23, vA24, vA25, vA26, vA27, vD]
    refine bkX4_group_246 X _ _ _ ?_
    simp only [zi_push, zi_ldi, zi_ldl, zi_lda, zi_sti, zi_stl, zi_sta, zi_inc, zi_b, zi_d, zi_u, zi_bl, zi_dl, zi_ul, zi_lcmp, zi_i2l, zi_l2i, zi_if, zi_ic, zi_nul, zi_dup, zi_pop, zi_dup_x1, zi_dup2, zi_gf, zi_pf, zi_ia, zi_is, zi_la, zi_lst, zi_aa, zi_as, zi_len, zi_new, zi_na, zi_mx, zi_mn, zi_sw, zi_swx, zi_cv, zi_cs, zi_ci, zi_obj, zi_iret, zi_lret, zi_zret, zi_aret, zi_vret, zm_s1, zm_s2, zm_k, zm_tk, zm_Rt, zm_is, List.getElem?_cons_zero, List.getElem?_cons_succ, List.set_cons_zero, List.set_cons_succ, List.length_cons, List.length_nil, List.map_cons, List.map_nil, List.sum_cons, List.sum_nil, List.nil_append, List.cons_append, Option.toList, Value.category, reduceIte, Nat.reduceAdd, Nat.reduceLeDiff, Nat.reduceLT, Nat.reduceEqDiff, Nat.reduceMul, and_true, true_and, and_self, Nat.zero_add, Nat.add_zero, Nat.le_refl, true_or, or_true, not_true_eq_false, not_false_eq_true, zm_ft_int, zm_ft_long, zm_ft_ref, zm_ft_null, zm_ft_b0, zm_ft_b1, i_2, i_3, i_4, i_10, io_16, io_64, io_33, io_2, cF_ev, cF_bm, va_rf, cH_0, cH_1, cH_2, cH_3, cH_4, cH_5, uT4, uT5, uT6, uT7, uB1, uB2, uB3, uG, uV, mH_0, mH_1, mH_2, mH_3, mH_4, mH_5, mH_6, mH_7, mH_8, mH_9, mH_10, mH_11, mH_12, mH_13, mH_14, mH_15, mH_16, mH_17, mH_18, mH_19, mH_20, mH_21, vI0, vI1, vI2, vI3, vI5, vI17, vI18, vI19, vA4, vA6, vA7, vA8, vA9, vA10, vA11, vA12, vA13, vA14, vA15, vA16, vA20, vA21, vA22, vA23, vA24, vA25, vA26, vA27, vD]
    refine ⟨fun _ => ?_, fun p => p.elim⟩
    refine zm_call.of (ctR_ends r6 r8'.2.1 hb0 r4) (Nat.le_refl _) (Nat.le_refl _) ?_
    simp only [zi_push, zi_ldi, zi_ldl, zi_lda, zi_sti, zi_stl, zi_sta, zi_inc, zi_b, zi_d, zi_u, zi_bl, zi_dl, zi_ul, zi_lcmp, zi_i2l, zi_l2i, zi_if, zi_ic, zi_nul, zi_dup, zi_pop, zi_dup_x1, zi_dup2, zi_gf, zi_pf, zi_ia, zi_is, zi_la, zi_lst, zi_aa, zi_as, zi_len, zi_new, zi_na, zi_mx, zi_mn, zi_sw, zi_swx, zi_cv, zi_cs, zi_ci, zi_obj, zi_iret, zi_lret, zi_zret, zi_aret, zi_vret, zm_s1, zm_s2, zm_k, zm_tk, zm_Rt, zm_is, List.getElem?_cons_zero, List.getElem?_cons_succ, List.set_cons_zero, List.set_cons_succ, List.length_cons, List.length_nil, List.map_cons, List.map_nil, List.sum_cons, List.sum_nil, List.nil_append, List.cons_append, Option.toList, Value.category, reduceIte, Nat.reduceAdd, Nat.reduceLeDiff, Nat.reduceLT, Nat.reduceEqDiff, Nat.reduceMul, and_true, true_and, and_self, Nat.zero_add, Nat.add_zero, Nat.le_refl, true_or, or_true, not_true_eq_false, not_false_eq_true, zm_ft_int, zm_ft_long, zm_ft_ref, zm_ft_null, zm_ft_b0, zm_ft_b1, i_2, i_3, i_4, i_10, io_16, io_64, io_33, io_2, cF_ev, cF_bm, va_rf, cH_0, cH_1, cH_2, cH_3, cH_4, cH_5, uT4, uT5, uT6, uT7, uB1, uB2, uB3, uG, uV, mH_0, mH_1, mH_2, mH_3, mH_4, mH_5, mH_6, mH_7, mH_8, mH_9, mH_10, mH_11, mH_12, mH_13, mH_14, mH_15, mH_16, mH_17, mH_18, mH_19, mH_20, mH_21, vI0, vI1, vI2, vI3, vI5, vI17, vI18, vI19, vA4, vA6, vA7, vA8, vA9, vA10, vA11, vA12, vA13, vA14, vA15, vA16, vA20, vA21, vA22, vA23, vA24, vA25, vA26, vA27, vD]
    have h := k262 hv hn (some (.int 0)) g8
    rw [(c1 hg).2.2, (c1 hg).2.1] at h
    exact h
  have k241 : cE D i 1 = v → ¬ cE D i 5 = 0 → ¬ (rc = 0 ∨ c_goes D gc j (csz D j) i = 0) → ∀ g7 g8 : Option Value, zm_V w Γ 241 [some (.ref q), some (.int v), some (.int la), some (.int rs), some (.int lg), some (.int (nI (csz D j))), some (.int (nI i)), g7, g8] [] (mH f q M, n) := by
    intro hv hn hg g7 g8
    refine bkX4_group_241 X _ _ _ ?_
    simp only [zi_push, zi_ldi, zi_ldl, zi_lda, zi_sti, zi_stl, zi_sta, zi_inc, zi_b, zi_d, zi_u, zi_bl, zi_dl, zi_ul, zi_lcmp, zi_i2l, zi_l2i, zi_if, zi_ic, zi_nul, zi_dup, zi_pop, zi_dup_x1, zi_dup2, zi_gf, zi_pf, zi_ia, zi_is, zi_la, zi_lst, zi_aa, zi_as, zi_len, zi_new, zi_na, zi_mx, zi_mn, zi_sw, zi_swx, zi_cv, zi_cs, zi_ci, zi_obj, zi_iret, zi_lret, zi_zret, zi_aret, zi_vret, zm_s1, zm_s2, zm_k, zm_tk, zm_Rt, zm_is, List.getElem?_cons_zero, List.getElem?_cons_succ, List.set_cons_zero, List.set_cons_succ, List.length_cons, List.length_nil, List.map_cons, List.map_nil, List.sum_cons, List.sum_nil, List.nil_append, List.cons_append, Option.toList, Value.category, reduceIte, Nat.reduceAdd, Nat.reduceLeDiff, Nat.reduceLT, Nat.reduceEqDiff, Nat.reduceMul, and_true, true_and, and_self, Nat.zero_add, Nat.add_zero, Nat.le_refl, true_or, or_true, not_true_eq_false, not_false_eq_true, zm_ft_int, zm_ft_long, zm_ft_ref, zm_ft_null, zm_ft_b0, zm_ft_b1, i_2, i_3, i_4, i_10, io_16, io_64, io_33, io_2, cF_ev, cF_bm, va_rf, cH_0, cH_1, cH_2, cH_3, cH_4, cH_5, uT4, uT5, uT6, uT7, uB1, uB2, uB3, uG, uV, mH_0, mH_1, mH_2, mH_3, mH_4, mH_5, mH_6, mH_7, mH_8, mH_9, mH_10, mH_11, mH_12, mH_13, mH_14, mH_15, mH_16, mH_17, mH_18, mH_19, mH_20, mH_21, vI0, vI1, vI2, vI3, vI5, vI17, vI18, vI19, vA4, vA6, vA7, vA8, vA9, vA10, vA11, vA12, vA13, vA14, vA15, vA16, vA20, vA21, vA22, vA23, vA24, vA25, vA26, vA27, vD]
    refine bkX4_group_246 X _ _ _ ?_
    simp only [zi_push, zi_ldi, zi_ldl, zi_lda, zi_sti, zi_stl, zi_sta, zi_inc, zi_b, zi_d, zi_u, zi_bl, zi_dl, zi_ul, zi_lcmp, zi_i2l, zi_l2i, zi_if, zi_ic, zi_nul, zi_dup, zi_pop, zi_dup_x1, zi_dup2, zi_gf, zi_pf, zi_ia, zi_is, zi_la, zi_lst, zi_aa, zi_as, zi_len, zi_new, zi_na, zi_mx, zi_mn, zi_sw, zi_swx, zi_cv, zi_cs, zi_ci, zi_obj, zi_iret, zi_lret, zi_zret, zi_aret, zi_vret, zm_s1, zm_s2, zm_k, zm_tk, zm_Rt, zm_is, List.getElem?_cons_zero, List.getElem?_cons_succ, List.set_cons_zero, List.set_cons_succ, List.length_cons, List.length_nil, List.map_cons, List.map_nil, List.sum_cons, List.sum_nil, List.nil_append, List.cons_append, Option.toList, Value.category, reduceIte, Nat.reduceAdd, Nat.reduceLeDiff, Nat.reduceLT, Nat.reduceEqDiff, Nat.reduceMul, and_true, true_and, and_self, Nat.zero_add, Nat.add_zero, Nat.le_refl, true_or, or_true, not_true_eq_false, not_false_eq_true, zm_ft_int, zm_ft_long, zm_ft_ref, zm_ft_null, zm_ft_b0, zm_ft_b1, i_2, i_3, i_4, i_10, io_16, io_64, io_33, io_2, cF_ev, cF_bm, va_rf, cH_0, cH_1, cH_2, cH_3, cH_4, cH_5, uT4, uT5, uT6, uT7, uB1, uB2, uB3, uG, uV, mH_0, mH_1, mH_2, mH_3, mH_4, mH_5, mH_6, mH_7, mH_8, mH_9, mH_10, mH_11, mH_12, mH_13, mH_14, mH_15, mH_16, mH_17, mH_18, mH_19, mH_20, mH_21, vI0, vI1, vI2, vI3, vI5, vI17, vI18, vI19, vA4, vA6, vA7, vA8, vA9, vA10, vA11, vA12, vA13, vA14, vA15, vA16, vA20, vA21, vA22, vA23, vA24, vA25, vA26, vA27, vD]
    refine ⟨fun p => absurd p (by decide), fun _ => ?_⟩
    have h := k262 hv hn (some (.int 1)) g8
    rw [(c2 hg).1, (c2 hg).2.1] at h
    exact h
  have k218 : cE D i 1 = v → ¬ cE D i 5 = 0 → ∀ (g7 sm : Int32) (g8 : Option Value), (g7 = 0 → (rc = 0 ∨ c_goes D gc j (csz D j) i = 0)) → ((¬ g7 = 0) → ((¬ sm = 0) ∨ cE D i 9 = 2) → ¬ (rc = 0 ∨ c_goes D gc j (csz D j) i = 0)) → ((¬ g7 = 0) → sm = 0 → (¬ cE D i 9 = 2) → (rc = 0 ∨ c_goes D gc j (csz D j) i = 0)) → zm_V w Γ 218 [some (.ref q), some (.int v), some (.int la), some (.int rs), some (.int lg), some (.int (nI (csz D j))), some (.int (nI i)), some (.int g7), g8] [.int sm] (mH f q M, n) := by
    intro hv hn g7 sm g8 h1 h2 h3
    refine bkX4_group_218 X _ _ _ ?_
    simp only [zi_push, zi_ldi, zi_ldl, zi_lda, zi_sti, zi_stl, zi_sta, zi_inc, zi_b, zi_d, zi_u, zi_bl, zi_dl, zi_ul, zi_lcmp, zi_i2l, zi_l2i, zi_if, zi_ic, zi_nul, zi_dup, zi_pop, zi_dup_x1, zi_dup2, zi_gf, zi_pf, zi_ia, zi_is, zi_la, zi_lst, zi_aa, zi_as, zi_len, zi_new, zi_na, zi_mx, zi_mn, zi_sw, zi_swx, zi_cv, zi_cs, zi_ci, zi_obj, zi_iret, zi_lret, zi_zret, zi_aret, zi_vret, zm_s1, zm_s2, zm_k, zm_tk, zm_Rt, zm_is, List.getElem?_cons_zero, List.getElem?_cons_succ, List.set_cons_zero, List.set_cons_succ, List.length_cons, List.length_nil, List.map_cons, List.map_nil, List.sum_cons, List.sum_nil, List.nil_append, List.cons_append, Option.toList, Value.category, reduceIte, Nat.reduceAdd, Nat.reduceLeDiff, Nat.reduceLT, Nat.reduceEqDiff, Nat.reduceMul, and_true, true_and, and_self, Nat.zero_add, Nat.add_zero, Nat.le_refl, true_or, or_true, not_true_eq_false, not_false_eq_true, zm_ft_int, zm_ft_long, zm_ft_ref, zm_ft_null, zm_ft_b0, zm_ft_b1, i_2, i_3, i_4, i_10, io_16, io_64, io_33, io_2, cF_ev, cF_bm, va_rf, cH_0, cH_1, cH_2, cH_3, cH_4, cH_5, uT4, uT5, uT6, uT7, uB1, uB2, uB3, uG, uV, mH_0, mH_1, mH_2, mH_3, mH_4, mH_5, mH_6, mH_7, mH_8, mH_9, mH_10, mH_11, mH_12, mH_13, mH_14, mH_15, mH_16, mH_17, mH_18, mH_19, mH_20, mH_21, vI0, vI1, vI2, vI3, vI5, vI17, vI18, vI19, vA4, vA6, vA7, vA8, vA9, vA10, vA11, vA12, vA13, vA14, vA15, vA16, vA20, vA21, vA22, vA23, vA24, vA25, vA26, vA27, vD, hci, ho.2.2.2.2.2.1]
    refine ⟨fun p => k245 hv hn (h1 p) _ _, fun p => ⟨fun r => ⟨vp_in_nI (by omega) (by decide), fun t => k241 hv hn (h2 p (Or.inr t)) _ _, fun t => k245 hv hn (h3 p r t) _ _⟩, fun r => k241 hv hn (h2 p (Or.inl r)) _ _⟩⟩
  have k217 : cE D i 1 = v → ¬ cE D i 5 = 0 → ∀ (g7 : Int32) (g8 : Option Value), (g7 = 0 → (rc = 0 ∨ c_goes D gc j (csz D j) i = 0)) → ((¬ g7 = 0) → (cE D i 9 = 2 → ¬ (rc = 0 ∨ c_goes D gc j (csz D j) i = 0)) ∧ ((¬ cE D i 9 = 2) → (rc = 0 ∨ c_goes D gc j (csz D j) i = 0))) → zm_V w Γ 217 [some (.ref q), some (.int v), some (.int la), some (.int rs), some (.int lg), some (.int (nI (csz D j))), some (.int (nI i)), some (.int g7), g8] [] (mH f q M, n) := by
    intro hv hn g7 g8 h1 h2
    refine bkX4_group_217 X _ _ _ ?_
    simp only [zi_push, zi_ldi, zi_ldl, zi_lda, zi_sti, zi_stl, zi_sta, zi_inc, zi_b, zi_d, zi_u, zi_bl, zi_dl, zi_ul, zi_lcmp, zi_i2l, zi_l2i, zi_if, zi_ic, zi_nul, zi_dup, zi_pop, zi_dup_x1, zi_dup2, zi_gf, zi_pf, zi_ia, zi_is, zi_la, zi_lst, zi_aa, zi_as, zi_len, zi_new, zi_na, zi_mx, zi_mn, zi_sw, zi_swx, zi_cv, zi_cs, zi_ci, zi_obj, zi_iret, zi_lret, zi_zret, zi_aret, zi_vret, zm_s1, zm_s2, zm_k, zm_tk, zm_Rt, zm_is, List.getElem?_cons_zero, List.getElem?_cons_succ, List.set_cons_zero, List.set_cons_succ, List.length_cons, List.length_nil, List.map_cons, List.map_nil, List.sum_cons, List.sum_nil, List.nil_append, List.cons_append, Option.toList, Value.category, reduceIte, Nat.reduceAdd, Nat.reduceLeDiff, Nat.reduceLT, Nat.reduceEqDiff, Nat.reduceMul, and_true, true_and, and_self, Nat.zero_add, Nat.add_zero, Nat.le_refl, true_or, or_true, not_true_eq_false, not_false_eq_true, zm_ft_int, zm_ft_long, zm_ft_ref, zm_ft_null, zm_ft_b0, zm_ft_b1, i_2, i_3, i_4, i_10, io_16, io_64, io_33, io_2, cF_ev, cF_bm, va_rf, cH_0, cH_1, cH_2, cH_3, cH_4, cH_5, uT4, uT5, uT6, uT7, uB1, uB2, uB3, uG, uV, mH_0, mH_1, mH_2, mH_3, mH_4, mH_5, mH_6, mH_7, mH_8, mH_9, mH_10, mH_11, mH_12, mH_13, mH_14, mH_15, mH_16, mH_17, mH_18, mH_19, mH_20, mH_21, vI0, vI1, vI2, vI3, vI5, vI17, vI18, vI19, vA4, vA6, vA7, vA8, vA9, vA10, vA11, vA12, vA13, vA14, vA15, vA16, vA20, vA21, vA22, vA23, vA24, vA25, vA26, vA27, vD]
    exact k218 hv hn g7 0 g8 h1 (fun p r => (h2 p).1 (r.resolve_left (fun z => z rfl))) (fun p _ t => (h2 p).2 t)
  have k167 : cE D i 1 = v → ¬ cE D i 5 = 0 → ∀ (g7 : Int32) (g7' g8 : Option Value), ((g7 = 0 ∧ (rc = 0 ∨ c_goes D gc j (csz D j) i = 0)) ∨ (g7 = 1 ∧ ∃ l, la = nI l ∧ l < i ∧ ((rc = 0 ∨ c_goes D gc j (csz D j) i = 0) ↔ ¬ (togP D gc l i ∨ cE D i 9 = 2)))) → zm_V w Γ 167 [some (.ref q), some (.int v), some (.int la), some (.int rs), some (.int lg), some (.int (nI (csz D j))), some (.int (nI i)), g7', g8] [.int g7] (mH f q M, n) := by
    intro hv hn g7 g7' g8 hg
    rcases k4 with ⟨s0, l0⟩ | ⟨l, l1, l2, l3, l4, l5, l6⟩
    · have hN : rc = 0 ∨ c_goes D gc j (csz D j) i = 0 := Or.inr (goes_0 (Or.inr s0))
      rw [l0] at k217 ⊢
      refine bkX4_group_167 X _ _ _ ?_
      simp only [zi_push, zi_ldi, zi_ldl, zi_lda, zi_sti, zi_stl, zi_sta, zi_inc, zi_b, zi_d, zi_u, zi_bl, zi_dl, zi_ul, zi_lcmp, zi_i2l, zi_l2i, zi_if, zi_ic, zi_nul, zi_dup, zi_pop, zi_dup_x1, zi_dup2, zi_gf, zi_pf, zi_ia, zi_is, zi_la, zi_lst, zi_aa, zi_as, zi_len, zi_new, zi_na, zi_mx, zi_mn, zi_sw, zi_swx, zi_cv, zi_cs, zi_ci, zi_obj, zi_iret, zi_lret, zi_zret, zi_aret, zi_vret, zm_s1, zm_s2, zm_k, zm_tk, zm_Rt, zm_is, List.getElem?_cons_zero, List.getElem?_cons_succ, List.set_cons_zero, List.set_cons_succ, List.length_cons, List.length_nil, List.map_cons, List.map_nil, List.sum_cons, List.sum_nil, List.nil_append, List.cons_append, Option.toList, Value.category, reduceIte, Nat.reduceAdd, Nat.reduceLeDiff, Nat.reduceLT, Nat.reduceEqDiff, Nat.reduceMul, and_true, true_and, and_self, Nat.zero_add, Nat.add_zero, Nat.le_refl, true_or, or_true, not_true_eq_false, not_false_eq_true, zm_ft_int, zm_ft_long, zm_ft_ref, zm_ft_null, zm_ft_b0, zm_ft_b1, i_2, i_3, i_4, i_10, io_16, io_64, io_33, io_2, cF_ev, cF_bm, va_rf, cH_0, cH_1, cH_2, cH_3, cH_4, cH_5, uT4, uT5, uT6, uT7, uB1, uB2, uB3, uG, uV, mH_0, mH_1, mH_2, mH_3, mH_4, mH_5, mH_6, mH_7, mH_8, mH_9, mH_10, mH_11, mH_12, mH_13, mH_14, mH_15, mH_16, mH_17, mH_18, mH_19, mH_20, mH_21, vI0, vI1, vI2, vI3, vI5, vI17, vI18, vI19, vA4, vA6, vA7, vA8, vA9, vA10, vA11, vA12, vA13, vA14, vA15, vA16, vA20, vA21, vA22, vA23, vA24, vA25, vA26, vA27, vD]
      refine ⟨fun _ => ?_, fun p => absurd (by decide) p⟩
      refine k217 hv hn g7 _ (fun _ => hN) (fun p => ?_)
      rcases hg with ⟨g, -⟩ | ⟨-, l, e, e2, -⟩
      · exact absurd g p
      · rw [l0] at e
        exact absurd e.symm (fun z => by
          have : (0 : Int32) ≤ nI l := nI_pos' (by omega)
          rw [z] at this
          exact absurd this (by decide))
    · have hcl : (nI l).toNatClampNeg = l := nI_clamp (by omega)
      have hlo := (r6.2.2 l (by omega)).1
      have e3 : mA M 9 i = cE D i 3 := ho.2.2.1
      have e3l : mA M 9 l = cE D l 3 := hlo.2.2.1
      have ebar : ∀ t, c_bar D t = t / cB D 2 := fun t => by rw [c_bar, if_neg r7'.2.2.2.2.2.1]
      have hfin : ∀ sm : Int32, ((sm = 1 ∧ togP D gc l i) ∨ (sm = 0 ∧ ¬ togP D gc l i)) → (g7 = 0 → (rc = 0 ∨ c_goes D gc j (csz D j) i = 0)) ∧ ((¬ g7 = 0) → ((¬ sm = 0) ∨ cE D i 9 = 2) → ¬ (rc = 0 ∨ c_goes D gc j (csz D j) i = 0)) ∧ ((¬ g7 = 0) → sm = 0 → (¬ cE D i 9 = 2) → (rc = 0 ∨ c_goes D gc j (csz D j) i = 0)) := by
        intro sm hsm
        rcases hg with ⟨g, gN⟩ | ⟨g, l', e, e2, e4⟩
        · exact ⟨fun _ => gN, fun p => absurd g p, fun p => absurd g p⟩
        · have : l' = l := by
            rw [l1, nI_eq (by omega) (by omega)] at e
            exact e.symm
          subst this
          refine ⟨fun p => absurd (g.symm.trans p) (by decide), fun _ h z => ?_, fun _ h h9 => ?_⟩
          · have z' := e4.mp z
            rcases h with h | h
            · rcases hsm with ⟨-, t⟩ | ⟨t, -⟩
              · exact z' (Or.inl t)
              · exact h t
            · exact z' (Or.inr h)
          · refine e4.mpr ?_
            rintro (h' | h')
            · rcases hsm with ⟨t, -⟩ | ⟨-, t⟩
              · rw [t] at h
                exact absurd h (by decide)
              · exact t h'
            · exact h9 h'
      rw [l1] at k217 k218 ⊢
      have f0 := hfin 0
      have f1 := hfin 1
      refine bkX4_group_167 X _ _ _ ?_
      simp only [zi_push, zi_ldi, zi_ldl, zi_lda, zi_sti, zi_stl, zi_sta, zi_inc, zi_b, zi_d, zi_u, zi_bl, zi_dl, zi_ul, zi_lcmp, zi_i2l, zi_l2i, zi_if, zi_ic, zi_nul, zi_dup, zi_pop, zi_dup_x1, zi_dup2, zi_gf, zi_pf, zi_ia, zi_is, zi_la, zi_lst, zi_aa, zi_as, zi_len, zi_new, zi_na, zi_mx, zi_mn, zi_sw, zi_swx, zi_cv, zi_cs, zi_ci, zi_obj, zi_iret, zi_lret, zi_zret, zi_aret, zi_vret, zm_s1, zm_s2, zm_k, zm_tk, zm_Rt, zm_is, List.getElem?_cons_zero, List.getElem?_cons_succ, List.set_cons_zero, List.set_cons_succ, List.length_cons, List.length_nil, List.map_cons, List.map_nil, List.sum_cons, List.sum_nil, List.nil_append, List.cons_append, Option.toList, Value.category, reduceIte, Nat.reduceAdd, Nat.reduceLeDiff, Nat.reduceLT, Nat.reduceEqDiff, Nat.reduceMul, and_true, true_and, and_self, Nat.zero_add, Nat.add_zero, Nat.le_refl, true_or, or_true, not_true_eq_false, not_false_eq_true, zm_ft_int, zm_ft_long, zm_ft_ref, zm_ft_null, zm_ft_b0, zm_ft_b1, i_2, i_3, i_4, i_10, io_16, io_64, io_33, io_2, cF_ev, cF_bm, va_rf, cH_0, cH_1, cH_2, cH_3, cH_4, cH_5, uT4, uT5, uT6, uT7, uB1, uB2, uB3, uG, uV, mH_0, mH_1, mH_2, mH_3, mH_4, mH_5, mH_6, mH_7, mH_8, mH_9, mH_10, mH_11, mH_12, mH_13, mH_14, mH_15, mH_16, mH_17, mH_18, mH_19, mH_20, mH_21, vI0, vI1, vI2, vI3, vI5, vI17, vI18, vI19, vA4, vA6, vA7, vA8, vA9, vA10, vA11, vA12, vA13, vA14, vA15, vA16, vA20, vA21, vA22, vA23, vA24, vA25, vA26, vA27, vD, hci, hcl, e3, e3l, r7'.2.2.2.2.1]
      refine ⟨fun p => absurd p (nI_pos (by omega)), fun _ => ⟨vp_in_nI (by omega) (by decide), hbar, vp_in_nI (by omega) (by decide), hbar, fun p => ?_, fun p => ?_⟩⟩
      · refine zm_call.of (ctR_groupOf r6 r7' hi) (Nat.le_refl _) (Nat.le_refl _) ?_
        simp only [zi_push, zi_ldi, zi_ldl, zi_lda, zi_sti, zi_stl, zi_sta, zi_inc, zi_b, zi_d, zi_u, zi_bl, zi_dl, zi_ul, zi_lcmp, zi_i2l, zi_l2i, zi_if, zi_ic, zi_nul, zi_dup, zi_pop, zi_dup_x1, zi_dup2, zi_gf, zi_pf, zi_ia, zi_is, zi_la, zi_lst, zi_aa, zi_as, zi_len, zi_new, zi_na, zi_mx, zi_mn, zi_sw, zi_swx, zi_cv, zi_cs, zi_ci, zi_obj, zi_iret, zi_lret, zi_zret, zi_aret, zi_vret, zm_s1, zm_s2, zm_k, zm_tk, zm_Rt, zm_is, List.getElem?_cons_zero, List.getElem?_cons_succ, List.set_cons_zero, List.set_cons_succ, List.length_cons, List.length_nil, List.map_cons, List.map_nil, List.sum_cons, List.sum_nil, List.nil_append, List.cons_append, Option.toList, Value.category, reduceIte, Nat.reduceAdd, Nat.reduceLeDiff, Nat.reduceLT, Nat.reduceEqDiff, Nat.reduceMul, and_true, true_and, and_self, Nat.zero_add, Nat.add_zero, Nat.le_refl, true_or, or_true, not_true_eq_false, not_false_eq_true, zm_ft_int, zm_ft_long, zm_ft_ref, zm_ft_null, zm_ft_b0, zm_ft_b1, i_2, i_3, i_4, i_10, io_16, io_64, io_33, io_2, cF_ev, cF_bm, va_rf, cH_0, cH_1, cH_2, cH_3, cH_4, cH_5, uT4, uT5, uT6, uT7, uB1, uB2, uB3, uG, uV, mH_0, mH_1, mH_2, mH_3, mH_4, mH_5, mH_6, mH_7, mH_8, mH_9, mH_10, mH_11, mH_12, mH_13, mH_14, mH_15, mH_16, mH_17, mH_18, mH_19, mH_20, mH_21, vI0, vI1, vI2, vI3, vI5, vI17, vI18, vI19, vA4, vA6, vA7, vA8, vA9, vA10, vA11, vA12, vA13, vA14, vA15, vA16, vA20, vA21, vA22, vA23, vA24, vA25, vA26, vA27, vD]
        refine zm_call.of (ctR_groupOf r6 r7' (show l < ec by omega)) (Nat.le_refl _) (Nat.le_refl _) ?_
        simp only [zi_push, zi_ldi, zi_ldl, zi_lda, zi_sti, zi_stl, zi_sta, zi_inc, zi_b, zi_d, zi_u, zi_bl, zi_dl, zi_ul, zi_lcmp, zi_i2l, zi_l2i, zi_if, zi_ic, zi_nul, zi_dup, zi_pop, zi_dup_x1, zi_dup2, zi_gf, zi_pf, zi_ia, zi_is, zi_la, zi_lst, zi_aa, zi_as, zi_len, zi_new, zi_na, zi_mx, zi_mn, zi_sw, zi_swx, zi_cv, zi_cs, zi_ci, zi_obj, zi_iret, zi_lret, zi_zret, zi_aret, zi_vret, zm_s1, zm_s2, zm_k, zm_tk, zm_Rt, zm_is, List.getElem?_cons_zero, List.getElem?_cons_succ, List.set_cons_zero, List.set_cons_succ, List.length_cons, List.length_nil, List.map_cons, List.map_nil, List.sum_cons, List.sum_nil, List.nil_append, List.cons_append, Option.toList, Value.category, reduceIte, Nat.reduceAdd, Nat.reduceLeDiff, Nat.reduceLT, Nat.reduceEqDiff, Nat.reduceMul, and_true, true_and, and_self, Nat.zero_add, Nat.add_zero, Nat.le_refl, true_or, or_true, not_true_eq_false, not_false_eq_true, zm_ft_int, zm_ft_long, zm_ft_ref, zm_ft_null, zm_ft_b0, zm_ft_b1, i_2, i_3, i_4, i_10, io_16, io_64, io_33, io_2, cF_ev, cF_bm, va_rf, cH_0, cH_1, cH_2, cH_3, cH_4, cH_5, uT4, uT5, uT6, uT7, uB1, uB2, uB3, uG, uV, mH_0, mH_1, mH_2, mH_3, mH_4, mH_5, mH_6, mH_7, mH_8, mH_9, mH_10, mH_11, mH_12, mH_13, mH_14, mH_15, mH_16, mH_17, mH_18, mH_19, mH_20, mH_21, vI0, vI1, vI2, vI3, vI5, vI17, vI18, vI19, vA4, vA6, vA7, vA8, vA9, vA10, vA11, vA12, vA13, vA14, vA15, vA16, vA20, vA21, vA22, vA23, vA24, vA25, vA26, vA27, vD]
        refine ⟨fun u => ?_, fun u => ?_⟩
        · have ht : togP D gc l i := ⟨by rw [ebar, ebar]; exact p.symm, u.symm⟩
          obtain ⟨x1, x2, x3⟩ := f1 (Or.inl ⟨rfl, ht⟩)
          exact k218 hv hn g7 1 _ x1 x2 x3
        · have ht : ¬ togP D gc l i := fun h => u h.2.symm
          obtain ⟨x1, x2, x3⟩ := f0 (Or.inr ⟨rfl, ht⟩)
          exact k217 hv hn g7 _ x1 (fun z => ⟨fun t => x2 z (Or.inr t), fun t => x3 z rfl t⟩)
      · have ht : ¬ togP D gc l i := fun h => p (by have := h.1; rw [ebar, ebar] at this; exact this.symm)
        obtain ⟨x1, x2, x3⟩ := f0 (Or.inr ⟨rfl, ht⟩)
        exact k217 hv hn g7 _ x1 (fun z => ⟨fun t => x2 z (Or.inr t), fun t => x3 z rfl t⟩)
  have k166 : cE D i 1 = v → ¬ cE D i 5 = 0 → (rc = 0 ∨ c_goes D gc j (csz D j) i = 0) → ∀ g7 g8 : Option Value, zm_V w Γ 166 [some (.ref q), some (.int v), some (.int la), some (.int rs), some (.int lg), some (.int (nI (csz D j))), some (.int (nI i)), g7, g8] [] (mH f q M, n) := by
    intro hv hn hg g7 g8
    refine bkX4_group_166 X _ _ _ ?_
    simp only [zi_push, zi_ldi, zi_ldl, zi_lda, zi_sti, zi_stl, zi_sta, zi_inc, zi_b, zi_d, zi_u, zi_bl, zi_dl, zi_ul, zi_lcmp, zi_i2l, zi_l2i, zi_if, zi_ic, zi_nul, zi_dup, zi_pop, zi_dup_x1, zi_dup2, zi_gf, zi_pf, zi_ia, zi_is, zi_la, zi_lst, zi_aa, zi_as, zi_len, zi_new, zi_na, zi_mx, zi_mn, zi_sw, zi_swx, zi_cv, zi_cs, zi_ci, zi_obj, zi_iret, zi_lret, zi_zret, zi_aret, zi_vret, zm_s1, zm_s2, zm_k, zm_tk, zm_Rt, zm_is, List.getElem?_cons_zero, List.getElem?_cons_succ, List.set_cons_zero, List.set_cons_succ, List.length_cons, List.length_nil, List.map_cons, List.map_nil, List.sum_cons, List.sum_nil, List.nil_append, List.cons_append, Option.toList, Value.category, reduceIte, Nat.reduceAdd, Nat.reduceLeDiff, Nat.reduceLT, Nat.reduceEqDiff, Nat.reduceMul, and_true, true_and, and_self, Nat.zero_add, Nat.add_zero, Nat.le_refl, true_or, or_true, not_true_eq_false, not_false_eq_true, zm_ft_int, zm_ft_long, zm_ft_ref, zm_ft_null, zm_ft_b0, zm_ft_b1, i_2, i_3, i_4, i_10, io_16, io_64, io_33, io_2, cF_ev, cF_bm, va_rf, cH_0, cH_1, cH_2, cH_3, cH_4, cH_5, uT4, uT5, uT6, uT7, uB1, uB2, uB3, uG, uV, mH_0, mH_1, mH_2, mH_3, mH_4, mH_5, mH_6, mH_7, mH_8, mH_9, mH_10, mH_11, mH_12, mH_13, mH_14, mH_15, mH_16, mH_17, mH_18, mH_19, mH_20, mH_21, vI0, vI1, vI2, vI3, vI5, vI17, vI18, vI19, vA4, vA6, vA7, vA8, vA9, vA10, vA11, vA12, vA13, vA14, vA15, vA16, vA20, vA21, vA22, vA23, vA24, vA25, vA26, vA27, vD]
    exact k167 hv hn 0 _ _ (Or.inl ⟨rfl, hg⟩)
  have k144 : cE D i 1 = v → ¬ cE D i 5 = 0 → rc = 1 → (¬ cE D i 2 < 3) → ∀ l, la = nI l → l < i → 0 < csz D j → cN D j (csz D j - 1) = l → ∀ g7 g8 : Option Value, zm_V w Γ 144 [some (.ref q), some (.int v), some (.int la), some (.int rs), some (.int lg), some (.int (nI (csz D j))), some (.int (nI i)), g7, g8] [] (mH f q M, n) := by
    intro hv hn hr h2 l hl hli h0 hc g7 g8
    have hgo := goes_iff (gc := gc) h2 h0 hc
    refine bkX4_group_144 X _ _ _ ?_
    have e16 : (16 : Int32) ≤ nI (csz D j) ↔ 16 ≤ csz D j := nI_leI (a := 16) (by decide) (by omega)
    simp only [zi_push, zi_ldi, zi_ldl, zi_lda, zi_sti, zi_stl, zi_sta, zi_inc, zi_b, zi_d, zi_u, zi_bl, zi_dl, zi_ul, zi_lcmp, zi_i2l, zi_l2i, zi_if, zi_ic, zi_nul, zi_dup, zi_pop, zi_dup_x1, zi_dup2, zi_gf, zi_pf, zi_ia, zi_is, zi_la, zi_lst, zi_aa, zi_as, zi_len, zi_new, zi_na, zi_mx, zi_mn, zi_sw, zi_swx, zi_cv, zi_cs, zi_ci, zi_obj, zi_iret, zi_lret, zi_zret, zi_aret, zi_vret, zm_s1, zm_s2, zm_k, zm_tk, zm_Rt, zm_is, List.getElem?_cons_zero, List.getElem?_cons_succ, List.set_cons_zero, List.set_cons_succ, List.length_cons, List.length_nil, List.map_cons, List.map_nil, List.sum_cons, List.sum_nil, List.nil_append, List.cons_append, Option.toList, Value.category, reduceIte, Nat.reduceAdd, Nat.reduceLeDiff, Nat.reduceLT, Nat.reduceEqDiff, Nat.reduceMul, and_true, true_and, and_self, Nat.zero_add, Nat.add_zero, Nat.le_refl, true_or, or_true, not_true_eq_false, not_false_eq_true, zm_ft_int, zm_ft_long, zm_ft_ref, zm_ft_null, zm_ft_b0, zm_ft_b1, i_2, i_3, i_4, i_10, io_16, io_64, io_33, io_2, cF_ev, cF_bm, va_rf, cH_0, cH_1, cH_2, cH_3, cH_4, cH_5, uT4, uT5, uT6, uT7, uB1, uB2, uB3, uG, uV, mH_0, mH_1, mH_2, mH_3, mH_4, mH_5, mH_6, mH_7, mH_8, mH_9, mH_10, mH_11, mH_12, mH_13, mH_14, mH_15, mH_16, mH_17, mH_18, mH_19, mH_20, mH_21, vI0, vI1, vI2, vI3, vI5, vI17, vI18, vI19, vA4, vA6, vA7, vA8, vA9, vA10, vA11, vA12, vA13, vA14, vA15, vA16, vA20, vA21, vA22, vA23, vA24, vA25, vA26, vA27, vD, hci, ho.2.2.2.2.2.1, e16]
    refine ⟨vp_in_nI (by omega) (by decide), fun p => k166 hv hn (Or.inr (hgo.mpr (Or.inl p))) _ _, fun p => ⟨fun r => k166 hv hn (Or.inr (hgo.mpr (Or.inr (Or.inl r)))) _ _, fun r => ?_⟩⟩
    refine k167 hv hn 1 _ _ (Or.inr ⟨rfl, l, hl, hli, ⟨fun z => ?_, fun z => Or.inr (hgo.mpr (Or.inr (Or.inr z)))⟩⟩)
    rcases z with z | z
    · rw [hr] at z
      exact absurd z (by decide)
    · rcases hgo.mp z with h | h | h
      · exact absurd h p
      · exact absurd h r
      · exact h
  refine bkX4_group_35 X _ _ _ ?_
  simp only [zi_push, zi_ldi, zi_ldl, zi_lda, zi_sti, zi_stl, zi_sta, zi_inc, zi_b, zi_d, zi_u, zi_bl, zi_dl, zi_ul, zi_lcmp, zi_i2l, zi_l2i, zi_if, zi_ic, zi_nul, zi_dup, zi_pop, zi_dup_x1, zi_dup2, zi_gf, zi_pf, zi_ia, zi_is, zi_la, zi_lst, zi_aa, zi_as, zi_len, zi_new, zi_na, zi_mx, zi_mn, zi_sw, zi_swx, zi_cv, zi_cs, zi_ci, zi_obj, zi_iret, zi_lret, zi_zret, zi_aret, zi_vret, zm_s1, zm_s2, zm_k, zm_tk, zm_Rt, zm_is, List.getElem?_cons_zero, List.getElem?_cons_succ, List.set_cons_zero, List.set_cons_succ, List.length_cons, List.length_nil, List.map_cons, List.map_nil, List.sum_cons, List.sum_nil, List.nil_append, List.cons_append, Option.toList, Value.category, reduceIte, Nat.reduceAdd, Nat.reduceLeDiff, Nat.reduceLT, Nat.reduceEqDiff, Nat.reduceMul, and_true, true_and, and_self, Nat.zero_add, Nat.add_zero, Nat.le_refl, true_or, or_true, not_true_eq_false, not_false_eq_true, zm_ft_int, zm_ft_long, zm_ft_ref, zm_ft_null, zm_ft_b0, zm_ft_b1, i_2, i_3, i_4, i_10, io_16, io_64, io_33, io_2, cF_ev, cF_bm, va_rf, cH_0, cH_1, cH_2, cH_3, cH_4, cH_5, uT4, uT5, uT6, uT7, uB1, uB2, uB3, uG, uV, mH_0, mH_1, mH_2, mH_3, mH_4, mH_5, mH_6, mH_7, mH_8, mH_9, mH_10, mH_11, mH_12, mH_13, mH_14, mH_15, mH_16, mH_17, mH_18, mH_19, mH_20, mH_21, vI0, vI1, vI2, vI3, vI5, vI17, vI18, vI19, vA4, vA6, vA7, vA8, vA9, vA10, vA11, vA12, vA13, vA14, vA15, vA16, vA20, vA21, vA22, vA23, vA24, vA25, vA26, vA27, vD, hci, r6.2.1, ho.1, ho.2.1, ho.2.2.2.2.2.2.2.2.1, e6, nI_1, r8'.2.2.1]
  refine ⟨fun p => absurd p (nI_ge (by omega) (by omega)), fun _ => ⟨vp_in_nI (by omega) (by decide), fun hv => ⟨vp_in_nI (by omega) (by decide), fun hn => ?_, fun hn => ?_⟩, fun hv => ?_⟩⟩
  · have hK : c_gvK v gc i (D, j, rc) = (D, j, if rc = 0 then 0 else if cT D 7 = 0 then 0 else if cE D i 2 < 3 then 0 else 1) := by
      simp only [c_gvK]
      rw [if_pos hv, if_pos hn]
    have hM : r_gvM v gc i (D, j, rc) M = M := by
      simp only [r_gvM]
      rw [if_pos hv, if_pos hn]
    rw [hK, hM] at hnext
    unfold k_la k_rs k_lg at hnext
    rw [if_pos hv, if_pos hn, if_pos hv, if_pos hn, if_pos hv, if_pos hn] at hnext
    dsimp only at hnext
    refine ⟨fun p => ⟨vp_in_nI (by omega) (by decide), ?_⟩, fun p => ?_⟩
    · rw [if_pos p] at hnext
      refine zm_call.of (ctR_isShort _) (Nat.le_refl _) (Nat.le_refl _) ?_
      simp only [zi_push, zi_ldi, zi_ldl, zi_lda, zi_sti, zi_stl, zi_sta, zi_inc, zi_b, zi_d, zi_u, zi_bl, zi_dl, zi_ul, zi_lcmp, zi_i2l, zi_l2i, zi_if, zi_ic, zi_nul, zi_dup, zi_pop, zi_dup_x1, zi_dup2, zi_gf, zi_pf, zi_ia, zi_is, zi_la, zi_lst, zi_aa, zi_as, zi_len, zi_new, zi_na, zi_mx, zi_mn, zi_sw, zi_swx, zi_cv, zi_cs, zi_ci, zi_obj, zi_iret, zi_lret, zi_zret, zi_aret, zi_vret, zm_s1, zm_s2, zm_k, zm_tk, zm_Rt, zm_is, List.getElem?_cons_zero, List.getElem?_cons_succ, List.set_cons_zero, List.set_cons_succ, List.length_cons, List.length_nil, List.map_cons, List.map_nil, List.sum_cons, List.sum_nil, List.nil_append, List.cons_append, Option.toList, Value.category, reduceIte, Nat.reduceAdd, Nat.reduceLeDiff, Nat.reduceLT, Nat.reduceEqDiff, Nat.reduceMul, and_true, true_and, and_self, Nat.zero_add, Nat.add_zero, Nat.le_refl, true_or, or_true, not_true_eq_false, not_false_eq_true, zm_ft_int, zm_ft_long, zm_ft_ref, zm_ft_null, zm_ft_b0, zm_ft_b1, i_2, i_3, i_4, i_10, io_16, io_64, io_33, io_2, cF_ev, cF_bm, va_rf, cH_0, cH_1, cH_2, cH_3, cH_4, cH_5, uT4, uT5, uT6, uT7, uB1, uB2, uB3, uG, uV, mH_0, mH_1, mH_2, mH_3, mH_4, mH_5, mH_6, mH_7, mH_8, mH_9, mH_10, mH_11, mH_12, mH_13, mH_14, mH_15, mH_16, mH_17, mH_18, mH_19, mH_20, mH_21, vI0, vI1, vI2, vI3, vI5, vI17, vI18, vI19, vA4, vA6, vA7, vA8, vA9, vA10, vA11, vA12, vA13, vA14, vA15, vA16, vA20, vA21, vA22, vA23, vA24, vA25, vA26, vA27, vD, zb_eq1, nI_1]
      refine ⟨fun r => ?_, fun r => ?_⟩
      · rw [if_pos (Classical.not_not.mp r)] at hnext
        exact hnext _ _
      · rw [if_neg (fun h => r (fun g => g h))] at hnext
        exact hnext _ _
    · rw [if_neg p] at hnext
      exact hnext _ _
  · refine ⟨fun p => ?_, fun p => ⟨vp_in_nI (by omega) (by decide), ?_⟩⟩
    · refine k166 hv hn (Or.inr (goes_0 (Or.inr ?_))) _ _
      rcases k4 with ⟨s0, -⟩ | ⟨l, l1, l2, -⟩
      · exact s0
      · rw [l1] at p
        exact absurd p (nI_pos (by omega))
    · rcases k4 with ⟨s0, l0⟩ | ⟨l, l1, l2, l3, l4, l5, l6⟩
      · rw [l0] at p
        exact absurd (by decide) p
      · have hcl : (nI l).toNatClampNeg = l := nI_clamp (by omega)
        have hlo := (r6.2.2 l (by omega)).1
        refine zm_call.of (ctR_isShort _) (Nat.le_refl _) (Nat.le_refl _) ?_
        simp only [zi_push, zi_ldi, zi_ldl, zi_lda, zi_sti, zi_stl, zi_sta, zi_inc, zi_b, zi_d, zi_u, zi_bl, zi_dl, zi_ul, zi_lcmp, zi_i2l, zi_l2i, zi_if, zi_ic, zi_nul, zi_dup, zi_pop, zi_dup_x1, zi_dup2, zi_gf, zi_pf, zi_ia, zi_is, zi_la, zi_lst, zi_aa, zi_as, zi_len, zi_new, zi_na, zi_mx, zi_mn, zi_sw, zi_swx, zi_cv, zi_cs, zi_ci, zi_obj, zi_iret, zi_lret, zi_zret, zi_aret, zi_vret, zm_s1, zm_s2, zm_k, zm_tk, zm_Rt, zm_is, List.getElem?_cons_zero, List.getElem?_cons_succ, List.set_cons_zero, List.set_cons_succ, List.length_cons, List.length_nil, List.map_cons, List.map_nil, List.sum_cons, List.sum_nil, List.nil_append, List.cons_append, Option.toList, Value.category, reduceIte, Nat.reduceAdd, Nat.reduceLeDiff, Nat.reduceLT, Nat.reduceEqDiff, Nat.reduceMul, and_true, true_and, and_self, Nat.zero_add, Nat.add_zero, Nat.le_refl, true_or, or_true, not_true_eq_false, not_false_eq_true, zm_ft_int, zm_ft_long, zm_ft_ref, zm_ft_null, zm_ft_b0, zm_ft_b1, i_2, i_3, i_4, i_10, io_16, io_64, io_33, io_2, cF_ev, cF_bm, va_rf, cH_0, cH_1, cH_2, cH_3, cH_4, cH_5, uT4, uT5, uT6, uT7, uB1, uB2, uB3, uG, uV, mH_0, mH_1, mH_2, mH_3, mH_4, mH_5, mH_6, mH_7, mH_8, mH_9, mH_10, mH_11, mH_12, mH_13, mH_14, mH_15, mH_16, mH_17, mH_18, mH_19, mH_20, mH_21, vI0, vI1, vI2, vI3, vI5, vI17, vI18, vI19, vA4, vA6, vA7, vA8, vA9, vA10, vA11, vA12, vA13, vA14, vA15, vA16, vA20, vA21, vA22, vA23, vA24, vA25, vA26, vA27, vD, zb_eq1]
        refine ⟨fun r => k166 hv hn (Or.inr (goes_0 (Or.inl (Classical.not_not.mp r)))) _ _, fun r => ?_⟩
        have h2 : ¬ cE D i 2 < 3 := fun h => r (fun g => g h)
        have kl := k144
        rw [l1] at k166 k144 ⊢
        simp only [zi_push, zi_ldi, zi_ldl, zi_lda, zi_sti, zi_stl, zi_sta, zi_inc, zi_b, zi_d, zi_u, zi_bl, zi_dl, zi_ul, zi_lcmp, zi_i2l, zi_l2i, zi_if, zi_ic, zi_nul, zi_dup, zi_pop, zi_dup_x1, zi_dup2, zi_gf, zi_pf, zi_ia, zi_is, zi_la, zi_lst, zi_aa, zi_as, zi_len, zi_new, zi_na, zi_mx, zi_mn, zi_sw, zi_swx, zi_cv, zi_cs, zi_ci, zi_obj, zi_iret, zi_lret, zi_zret, zi_aret, zi_vret, zm_s1, zm_s2, zm_k, zm_tk, zm_Rt, zm_is, List.getElem?_cons_zero, List.getElem?_cons_succ, List.set_cons_zero, List.set_cons_succ, List.length_cons, List.length_nil, List.map_cons, List.map_nil, List.sum_cons, List.sum_nil, List.nil_append, List.cons_append, Option.toList, Value.category, reduceIte, Nat.reduceAdd, Nat.reduceLeDiff, Nat.reduceLT, Nat.reduceEqDiff, Nat.reduceMul, and_true, true_and, and_self, Nat.zero_add, Nat.add_zero, Nat.le_refl, true_or, or_true, not_true_eq_false, not_false_eq_true, zm_ft_int, zm_ft_long, zm_ft_ref, zm_ft_null, zm_ft_b0, zm_ft_b1, i_2, i_3, i_4, i_10, io_16, io_64, io_33, io_2, cF_ev, cF_bm, va_rf, cH_0, cH_1, cH_2, cH_3, cH_4, cH_5, uT4, uT5, uT6, uT7, uB1, uB2, uB3, uG, uV, mH_0, mH_1, mH_2, mH_3, mH_4, mH_5, mH_6, mH_7, mH_8, mH_9, mH_10, mH_11, mH_12, mH_13, mH_14, mH_15, mH_16, mH_17, mH_18, mH_19, mH_20, mH_21, vI0, vI1, vI2, vI3, vI5, vI17, vI18, vI19, vA4, vA6, vA7, vA8, vA9, vA10, vA11, vA12, vA13, vA14, vA15, vA16, vA20, vA21, vA22, vA23, vA24, vA25, vA26, vA27, vD, hcl, hlo.2.1]
        refine ⟨vp_in_nI (by omega) (by decide), ?_⟩
        refine zm_call.of (ctR_isShort _) (Nat.le_refl _) (Nat.le_refl _) ?_
        simp only [zi_push, zi_ldi, zi_ldl, zi_lda, zi_sti, zi_stl, zi_sta, zi_inc, zi_b, zi_d, zi_u, zi_bl, zi_dl, zi_ul, zi_lcmp, zi_i2l, zi_l2i, zi_if, zi_ic, zi_nul, zi_dup, zi_pop, zi_dup_x1, zi_dup2, zi_gf, zi_pf, zi_ia, zi_is, zi_la, zi_lst, zi_aa, zi_as, zi_len, zi_new, zi_na, zi_mx, zi_mn, zi_sw, zi_swx, zi_cv, zi_cs, zi_ci, zi_obj, zi_iret, zi_lret, zi_zret, zi_aret, zi_vret, zm_s1, zm_s2, zm_k, zm_tk, zm_Rt, zm_is, List.getElem?_cons_zero, List.getElem?_cons_succ, List.set_cons_zero, List.set_cons_succ, List.length_cons, List.length_nil, List.map_cons, List.map_nil, List.sum_cons, List.sum_nil, List.nil_append, List.cons_append, Option.toList, Value.category, reduceIte, Nat.reduceAdd, Nat.reduceLeDiff, Nat.reduceLT, Nat.reduceEqDiff, Nat.reduceMul, and_true, true_and, and_self, Nat.zero_add, Nat.add_zero, Nat.le_refl, true_or, or_true, not_true_eq_false, not_false_eq_true, zm_ft_int, zm_ft_long, zm_ft_ref, zm_ft_null, zm_ft_b0, zm_ft_b1, i_2, i_3, i_4, i_10, io_16, io_64, io_33, io_2, cF_ev, cF_bm, va_rf, cH_0, cH_1, cH_2, cH_3, cH_4, cH_5, uT4, uT5, uT6, uT7, uB1, uB2, uB3, uG, uV, mH_0, mH_1, mH_2, mH_3, mH_4, mH_5, mH_6, mH_7, mH_8, mH_9, mH_10, mH_11, mH_12, mH_13, mH_14, mH_15, mH_16, mH_17, mH_18, mH_19, mH_20, mH_21, vI0, vI1, vI2, vI3, vI5, vI17, vI18, vI19, vA4, vA6, vA7, vA8, vA9, vA10, vA11, vA12, vA13, vA14, vA15, vA16, vA20, vA21, vA22, vA23, vA24, vA25, vA26, vA27, vD, zb_eq1, r8'.2.2.1]
        refine ⟨fun u => ?_, fun u => ?_⟩
        · refine k166 hv hn (Or.inr (goes_0 (Or.inr ?_))) _ _
          rcases l6 with ⟨-, h⟩ | ⟨h, -, -⟩
          · exact h
          · exact absurd (Classical.not_not.mp u) h
        · have hl2 : ¬ cE D l 2 < 3 := fun h => u (fun g => g h)
          obtain ⟨s1, s2⟩ : 0 < csz D j ∧ cN D j (csz D j - 1) = l := by
            rcases l6 with ⟨h, -⟩ | ⟨-, h, h'⟩
            · exact absurd h hl2
            · exact ⟨h, h'⟩
          refine ⟨fun x => ?_, fun x => ⟨fun y => ?_, fun y => ⟨fun z => ?_, fun z => ?_⟩⟩⟩
          · refine k144 hv hn ?_ h2 l rfl l2 s1 s2 _ _
            rcases k5 with ⟨-, -, a3⟩ | ⟨a1, -, -⟩
            · exact a3
            · rw [a1] at x
              exact absurd x (by decide)
          · refine k166 hv hn (Or.inl ?_) _ _
            rcases k5 with ⟨a1, -, -⟩ | ⟨-, -, a3⟩
            · exact absurd a1 x
            · rw [a3, if_pos y]
          · refine k144 hv hn ?_ h2 l rfl l2 s1 s2 _ _
            rcases k5 with ⟨a1, -, -⟩ | ⟨-, -, a3⟩
            · exact absurd a1 x
            · rw [a3, if_neg y, if_pos z]
          · refine k166 hv hn (Or.inl ?_) _ _
            rcases k5 with ⟨a1, -, -⟩ | ⟨-, -, a3⟩
            · exact absurd a1 x
            · rw [a3, if_neg y, if_neg z]
  · have hK : c_gvK v gc i (D, j, rc) = (D, j, rc) := by
      simp only [c_gvK]
      rw [if_neg hv]
    have hM : r_gvM v gc i (D, j, rc) M = M := by
      simp only [r_gvM]
      rw [if_neg hv]
    rw [hK, hM] at hnext
    unfold k_la k_rs k_lg at hnext
    rw [if_neg hv, if_neg hv, if_neg hv] at hnext
    exact hnext _ _
end
