
section
variable {w : zW} {f : Nat → Option zO} {o q : Nat} {n : Nat × Nat} {C : cS} {M : mS} {ec bc gc : Nat}
theorem c_in_ne {s a b : Int32} (h : ¬ c_in s a b = 0) : (¬ s < a) ∧ ¬ b < s := by
  unfold c_in at h
  by_cases p : s < a
  · rw [if_pos p] at h
    exact absurd rfl h
  · rw [if_neg p] at h
    by_cases r : b < s
    · rw [if_pos r] at h
      exact absurd rfl h
    · exact ⟨p, r⟩
theorem c_in_inR {s : Int32} {a b : Int} (ha1 : -2147483648 ≤ a) (ha2 : a < 2147483648) (hb1 : -2147483648 ≤ b) (hb2 : b < 2147483648) (h : ¬ c_in s (zI a) (zI b) = 0) : inR s a b := by
  obtain ⟨h1, h2⟩ := c_in_ne h
  have b1 := s.le_toInt
  have b2 := s.toInt_lt
  rw [← zI_self s, zI_lt (by omega) (by omega) ha1 ha2] at h1
  rw [← zI_self s, zI_lt hb1 hb2 (by omega) (by omega)] at h2
  exact inR_of (by omega) (by omega)
theorem c_ref_0 {k : Nat} {b : Int32} (h : c_ref C k b = 0) : (¬ b = 0) ∧ ¬ cE C k 5 = 0 := by
  unfold c_ref at h
  by_cases p : b = 0
  · rw [if_pos p] at h
    exact absurd h (by decide)
  · rw [if_neg p] at h
    by_cases r : cE C k 5 = 0
    · rw [if_pos r] at h
      exact absurd h (by decide)
    · exact ⟨p, r⟩
/-- staff, marking or breaks of an event set -/
theorem eOK_put {C' : cS} {M' : mS} {i : Nat} (hE : ∀ x, (x < 10 ∨ 15 < x) → x ≠ 8 → x ≠ 9 → x ≠ 17 → cE C' i x = cE C i x) (hA : ∀ y, 6 ≤ y → y ≤ 15 → y ≠ 11 → y ≠ 12 → y ≠ 13 → mA M' y i = mA M y i) (h14 : mA M' 14 = mA M 14) (h11 : mA M' 11 i = cE C' i 8) (h12 : mA M' 12 i = cE C' i 9) (h13 : mA M' 13 i = cE C' i 17) (h8 : inR (cE C' i 8) 0 1) (h : eOK C M i) : eOK C' M' i := by
  obtain ⟨h1, h2, hm, h3, h4, h5, h6⟩ := h
  unfold eO1 eO2 at *
  refine ⟨?_, ?_, hm, h3, ?_, ?_, ?_⟩
  · unfold eO1
    rw [hA 7 (by omega) (by omega) (by omega) (by omega) (by omega), hA 8 (by omega) (by omega) (by omega) (by omega) (by omega), hA 9 (by omega) (by omega) (by omega) (by omega) (by omega), hA 10 (by omega) (by omega) (by omega) (by omega) (by omega), hA 15 (by omega) (by omega) (by omega) (by omega) (by omega), hA 6 (by omega) (by omega) (by omega) (by omega) (by omega), hE 0 (by omega) (by omega) (by omega) (by omega), hE 1 (by omega) (by omega) (by omega) (by omega), hE 2 (by omega) (by omega) (by omega) (by omega), hE 3 (by omega) (by omega) (by omega) (by omega), hE 4 (by omega) (by omega) (by omega) (by omega), hE 5 (by omega) (by omega) (by omega) (by omega)]
    obtain ⟨a1, a2, a3, a4, a5, a6, a7, a8, a9, a10⟩ := h1
    exact ⟨a1, a2, a3, a4, h11, h12, h13, a8, a9, a10⟩
  · unfold eO2
    rw [hE 1 (by omega) (by omega) (by omega) (by omega), hE 2 (by omega) (by omega) (by omega) (by omega), hE 5 (by omega) (by omega) (by omega) (by omega), hE 6 (by omega) (by omega) (by omega) (by omega), hE 7 (by omega) (by omega) (by omega) (by omega)]
    exact ⟨h2.1, h2.2.1, h8, h2.2.2.2⟩
  · rw [hE 5 (by omega) (by omega) (by omega) (by omega)]
    exact h4
  · unfold r_hd
    rw [hE 7 (by omega) (by omega) (by omega) (by omega), hE 6 (by omega) (by omega) (by omega) (by omega), h14]
    exact h5
  · unfold r_hd
    rw [hE 16 (by omega) (by omega) (by omega) (by omega), h14]
    exact h6

theorem ctR_staff1 (h : rR C M ec bc gc) {x : Int32} (hx : noN x ec) (s : Int32) : zm_C w mX4_staff [.ref q, .int x, .int s] (mH f q M, n) (some (.int (-1002))) (mH f q (tI M 0 0), n) := by
  have h0 : rR C (tI M 0 0) ec bc gc := rR_I h rfl rfl rfl rfl rfl rfl rfl rfl
  have hec : ec ≤ 64 := h.2.2.2.2.2.1.1
  refine zm_C.of (mc := 0) (ms := 0) rfl rfl (by decide) (Nat.le_of_ble_eq_true rfl) ?_
  intro Γ X
  refine bkX4_staff_0 X [some (.ref q), some (.int x), some (.int s), none] [] _ ?_
  simp only [zi_push, zi_ldi, zi_ldl, zi_lda, zi_sti, zi_stl, zi_sta, zi_inc, zi_b, zi_d, zi_u, zi_bl, zi_dl, zi_ul, zi_lcmp, zi_i2l, zi_l2i, zi_if, zi_ic, zi_nul, zi_dup, zi_pop, zi_dup_x1, zi_dup2, zi_gf, zi_pf, zi_ia, zi_is, zi_la, zi_lst, zi_aa, zi_as, zi_len, zi_new, zi_na, zi_mx, zi_mn, zi_sw, zi_swx, zi_cv, zi_cs, zi_ci, zi_obj, zi_iret, zi_lret, zi_zret, zi_aret, zi_vret, zm_s1, zm_s2, zm_k, zm_tk, zm_Rt, zm_is, List.getElem?_cons_zero, List.getElem?_cons_succ, List.set_cons_zero, List.set_cons_succ, List.length_cons, List.length_nil, List.map_cons, List.map_nil, List.sum_cons, List.sum_nil, List.nil_append, List.cons_append, Option.toList, Value.category, reduceIte, Nat.reduceAdd, Nat.reduceLeDiff, Nat.reduceLT, Nat.reduceEqDiff, Nat.reduceMul, and_true, true_and, and_self, Nat.zero_add, Nat.add_zero, Nat.le_refl, true_or, or_true, not_true_eq_false, not_false_eq_true, zm_ft_int, zm_ft_long, zm_ft_ref, zm_ft_null, zm_ft_b0, zm_ft_b1, i_2, i_3, i_4, i_10, io_16, io_64, io_33, io_2, cF_ev, cF_bm, va_rf, cH_0, cH_1, cH_2, cH_3, cH_4, cH_5, uT4, uT5, uT6, uT7, uB1, uB2, uB3, uG, uV, mH_0, mH_1, mH_2, mH_3, mH_4, mH_5, mH_6, mH_7, mH_8, mH_9, mH_10, mH_11, mH_12, mH_13, mH_14, mH_15, mH_16, mH_17, mH_18, mH_19, mH_20, mH_21, vI0, vI1, vI2, vI3, vI5, vI17, vI18, vI19, vA4, vA6, vA7, vA8, vA9, vA10, vA11, vA12, vA13, vA14, vA15, vA16, vA20, vA21, vA22, vA23, vA24, vA25, vA26, vA27, vD]
  refine zm_call.of (ctR_isEvent h0.2.2.2.2.2.1.2.1 x) (Nat.le_refl _) (Nat.le_refl _) ?_
  simp only [zi_push, zi_ldi, zi_ldl, zi_lda, zi_sti, zi_stl, zi_sta, zi_inc, zi_b, zi_d, zi_u, zi_bl, zi_dl, zi_ul, zi_lcmp, zi_i2l, zi_l2i, zi_if, zi_ic, zi_nul, zi_dup, zi_pop, zi_dup_x1, zi_dup2, zi_gf, zi_pf, zi_ia, zi_is, zi_la, zi_lst, zi_aa, zi_as, zi_len, zi_new, zi_na, zi_mx, zi_mn, zi_sw, zi_swx, zi_cv, zi_cs, zi_ci, zi_obj, zi_iret, zi_lret, zi_zret, zi_aret, zi_vret, zm_s1, zm_s2, zm_k, zm_tk, zm_Rt, zm_is, List.getElem?_cons_zero, List.getElem?_cons_succ, List.set_cons_zero, List.set_cons_succ, List.length_cons, List.length_nil, List.map_cons, List.map_nil, List.sum_cons, List.sum_nil, List.nil_append, List.cons_append, Option.toList, Value.category, reduceIte, Nat.reduceAdd, Nat.reduceLeDiff, Nat.reduceLT, Nat.reduceEqDiff, Nat.reduceMul, and_true, true_and, and_self, Nat.zero_add, Nat.add_zero, Nat.le_refl, true_or, or_true, not_true_eq_false, not_false_eq_true, zm_ft_int, zm_ft_long, zm_ft_ref, zm_ft_null, zm_ft_b0, zm_ft_b1, i_2, i_3, i_4, i_10, io_16, io_64, io_33, io_2, cF_ev, cF_bm, va_rf, cH_0, cH_1, cH_2, cH_3, cH_4, cH_5, uT4, uT5, uT6, uT7, uB1, uB2, uB3, uG, uV, mH_0, mH_1, mH_2, mH_3, mH_4, mH_5, mH_6, mH_7, mH_8, mH_9, mH_10, mH_11, mH_12, mH_13, mH_14, mH_15, mH_16, mH_17, mH_18, mH_19, mH_20, mH_21, vI0, vI1, vI2, vI3, vI5, vI17, vI18, vI19, vA4, vA6, vA7, vA8, vA9, vA10, vA11, vA12, vA13, vA14, vA15, vA16, vA20, vA21, vA22, vA23, vA24, vA25, vA26, vA27, vD]
  refine ⟨fun _ => trivial, fun p => absurd ((noN_in (by omega)).mpr hx) p⟩
theorem ctR_staff2 (h : rR C M ec bc gc) {k : Nat} (hk : k < ec) (s : Int32) (hr : ¬ c_ref C k (c_in s 0 1) = 0) : zm_C w mX4_staff [.ref q, .int (nI k), .int s] (mH f q M, n) (some (.int (c_ref C k (c_in s 0 1)))) (mH f q (tI M 0 0), n) := by
  have h0 : rR C (tI M 0 0) ec bc gc := rR_I h rfl rfl rfl rfl rfl rfl rfl rfl
  have hec : ec ≤ 64 := h.2.2.2.2.2.1.1
  have ho := h0.2.2.2.2.2.1.2.2 k hk
  refine zm_C.of (mc := 0) (ms := 0) rfl rfl (by decide) (Nat.le_of_ble_eq_true rfl) ?_
  intro Γ X
  refine bkX4_staff_0 X [some (.ref q), some (.int (nI k)), some (.int s), none] [] _ ?_
  simp only [zi_push, zi_ldi, zi_ldl, zi_lda, zi_sti, zi_stl, zi_sta, zi_inc, zi_b, zi_d, zi_u, zi_bl, zi_dl, zi_ul, zi_lcmp, zi_i2l, zi_l2i, zi_if, zi_ic, zi_nul, zi_dup, zi_pop, zi_dup_x1, zi_dup2, zi_gf, zi_pf, zi_ia, zi_is, zi_la, zi_lst, zi_aa, zi_as, zi_len, zi_new, zi_na, zi_mx, zi_mn, zi_sw, zi_swx, zi_cv, zi_cs, zi_ci, zi_obj, zi_iret, zi_lret, zi_zret, zi_aret, zi_vret, zm_s1, zm_s2, zm_k, zm_tk, zm_Rt, zm_is, List.getElem?_cons_zero, List.getElem?_cons_succ, List.set_cons_zero, List.set_cons_succ, List.length_cons, List.length_nil, List.map_cons, List.map_nil, List.sum_cons, List.sum_nil, List.nil_append, List.cons_append, Option.toList, Value.category, reduceIte, Nat.reduceAdd, Nat.reduceLeDiff, Nat.reduceLT, Nat.reduceEqDiff, Nat.reduceMul, and_true, true_and, and_self, Nat.zero_add, Nat.add_zero, Nat.le_refl, true_or, or_true, not_true_eq_false, not_false_eq_true, zm_ft_int, zm_ft_long, zm_ft_ref, zm_ft_null, zm_ft_b0, zm_ft_b1, i_2, i_3, i_4, i_10, io_16, io_64, io_33, io_2, cF_ev, cF_bm, va_rf, cH_0, cH_1, cH_2, cH_3, cH_4, cH_5, uT4, uT5, uT6, uT7, uB1, uB2, uB3, uG, uV, mH_0, mH_1, mH_2, mH_3, mH_4, mH_5, mH_6, mH_7, mH_8, mH_9, mH_10, mH_11, mH_12, mH_13, mH_14, mH_15, mH_16, mH_17, mH_18, mH_19, mH_20, mH_21, vI0, vI1, vI2, vI3, vI5, vI17, vI18, vI19, vA4, vA6, vA7, vA8, vA9, vA10, vA11, vA12, vA13, vA14, vA15, vA16, vA20, vA21, vA22, vA23, vA24, vA25, vA26, vA27, vD]
  refine zm_call.of (ctR_isEvent h0.2.2.2.2.2.1.2.1 (nI k)) (Nat.le_refl _) (Nat.le_refl _) ?_
  simp only [zi_push, zi_ldi, zi_ldl, zi_lda, zi_sti, zi_stl, zi_sta, zi_inc, zi_b, zi_d, zi_u, zi_bl, zi_dl, zi_ul, zi_lcmp, zi_i2l, zi_l2i, zi_if, zi_ic, zi_nul, zi_dup, zi_pop, zi_dup_x1, zi_dup2, zi_gf, zi_pf, zi_ia, zi_is, zi_la, zi_lst, zi_aa, zi_as, zi_len, zi_new, zi_na, zi_mx, zi_mn, zi_sw, zi_swx, zi_cv, zi_cs, zi_ci, zi_obj, zi_iret, zi_lret, zi_zret, zi_aret, zi_vret, zm_s1, zm_s2, zm_k, zm_tk, zm_Rt, zm_is, List.getElem?_cons_zero, List.getElem?_cons_succ, List.set_cons_zero, List.set_cons_succ, List.length_cons, List.length_nil, List.map_cons, List.map_nil, List.sum_cons, List.sum_nil, List.nil_append, List.cons_append, Option.toList, Value.category, reduceIte, Nat.reduceAdd, Nat.reduceLeDiff, Nat.reduceLT, Nat.reduceEqDiff, Nat.reduceMul, and_true, true_and, and_self, Nat.zero_add, Nat.add_zero, Nat.le_refl, true_or, or_true, not_true_eq_false, not_false_eq_true, zm_ft_int, zm_ft_long, zm_ft_ref, zm_ft_null, zm_ft_b0, zm_ft_b1, i_2, i_3, i_4, i_10, io_16, io_64, io_33, io_2, cF_ev, cF_bm, va_rf, cH_0, cH_1, cH_2, cH_3, cH_4, cH_5, uT4, uT5, uT6, uT7, uB1, uB2, uB3, uG, uV, mH_0, mH_1, mH_2, mH_3, mH_4, mH_5, mH_6, mH_7, mH_8, mH_9, mH_10, mH_11, mH_12, mH_13, mH_14, mH_15, mH_16, mH_17, mH_18, mH_19, mH_20, mH_21, vI0, vI1, vI2, vI3, vI5, vI17, vI18, vI19, vA4, vA6, vA7, vA8, vA9, vA10, vA11, vA12, vA13, vA14, vA15, vA16, vA20, vA21, vA22, vA23, vA24, vA25, vA26, vA27, vD]
  refine ⟨fun p => absurd ((noN_in (by omega)).mp p) (noN_nI (by omega) hk), fun _ => ?_⟩
  refine zm_call.of (ctR_in32 s (a := 0) (b := 1) (by decide) (by decide)) (Nat.le_refl _) (Nat.le_refl _) ?_
  simp only [zi_push, zi_ldi, zi_ldl, zi_lda, zi_sti, zi_stl, zi_sta, zi_inc, zi_b, zi_d, zi_u, zi_bl, zi_dl, zi_ul, zi_lcmp, zi_i2l, zi_l2i, zi_if, zi_ic, zi_nul, zi_dup, zi_pop, zi_dup_x1, zi_dup2, zi_gf, zi_pf, zi_ia, zi_is, zi_la, zi_lst, zi_aa, zi_as, zi_len, zi_new, zi_na, zi_mx, zi_mn, zi_sw, zi_swx, zi_cv, zi_cs, zi_ci, zi_obj, zi_iret, zi_lret, zi_zret, zi_aret, zi_vret, zm_s1, zm_s2, zm_k, zm_tk, zm_Rt, zm_is, List.getElem?_cons_zero, List.getElem?_cons_succ, List.set_cons_zero, List.set_cons_succ, List.length_cons, List.length_nil, List.map_cons, List.map_nil, List.sum_cons, List.sum_nil, List.nil_append, List.cons_append, Option.toList, Value.category, reduceIte, Nat.reduceAdd, Nat.reduceLeDiff, Nat.reduceLT, Nat.reduceEqDiff, Nat.reduceMul, and_true, true_and, and_self, Nat.zero_add, Nat.add_zero, Nat.le_refl, true_or, or_true, not_true_eq_false, not_false_eq_true, zm_ft_int, zm_ft_long, zm_ft_ref, zm_ft_null, zm_ft_b0, zm_ft_b1, i_2, i_3, i_4, i_10, io_16, io_64, io_33, io_2, cF_ev, cF_bm, va_rf, cH_0, cH_1, cH_2, cH_3, cH_4, cH_5, uT4, uT5, uT6, uT7, uB1, uB2, uB3, uG, uV, mH_0, mH_1, mH_2, mH_3, mH_4, mH_5, mH_6, mH_7, mH_8, mH_9, mH_10, mH_11, mH_12, mH_13, mH_14, mH_15, mH_16, mH_17, mH_18, mH_19, mH_20, mH_21, vI0, vI1, vI2, vI3, vI5, vI17, vI18, vI19, vA4, vA6, vA7, vA8, vA9, vA10, vA11, vA12, vA13, vA14, vA15, vA16, vA20, vA21, vA22, vA23, vA24, vA25, vA26, vA27, vD, nI_clamp (show k < 2 ^ 31 by omega), rest_iff ho]
  refine ⟨fun p => by rw [c_ref, if_pos p], fun p => ⟨vp_in_nI (by omega) (by decide), fun r => by rw [c_ref, if_neg p, if_pos r], fun r => ?_⟩⟩
  exact absurd (by rw [c_ref, if_neg p, if_neg r]) hr

theorem ctR_staff3 (h : rR C M ec bc gc) {k : Nat} (hk : k < ec) (s : Int32) (hr : c_ref C k (c_in s 0 1) = 0) : zm_C w mX4_staff [.ref q, .int (nI k), .int s] (mH f q M, n) (some (.int (cE C k 8))) (mH f q (tI (tA (tI M 0 0) 11 k s) 18 0), n) := by
  have h0 : rR C (tI M 0 0) ec bc gc := rR_I h rfl rfl rfl rfl rfl rfl rfl rfl
  have hec : ec ≤ 64 := h.2.2.2.2.2.1.1
  have ho := h0.2.2.2.2.2.1.2.2 k hk
  obtain ⟨c1, c2⟩ := c_ref_0 hr
  refine zm_C.of (mc := 0) (ms := 0) rfl rfl (by decide) (Nat.le_of_ble_eq_true rfl) ?_
  intro Γ X
  refine bkX4_staff_0 X [some (.ref q), some (.int (nI k)), some (.int s), none] [] _ ?_
  simp only [zi_push, zi_ldi, zi_ldl, zi_lda, zi_sti, zi_stl, zi_sta, zi_inc, zi_b, zi_d, zi_u, zi_bl, zi_dl, zi_ul, zi_lcmp, zi_i2l, zi_l2i, zi_if, zi_ic, zi_nul, zi_dup, zi_pop, zi_dup_x1, zi_dup2, zi_gf, zi_pf, zi_ia, zi_is, zi_la, zi_lst, zi_aa, zi_as, zi_len, zi_new, zi_na, zi_mx, zi_mn, zi_sw, zi_swx, zi_cv, zi_cs, zi_ci, zi_obj, zi_iret, zi_lret, zi_zret, zi_aret, zi_vret, zm_s1, zm_s2, zm_k, zm_tk, zm_Rt, zm_is, List.getElem?_cons_zero, List.getElem?_cons_succ, List.set_cons_zero, List.set_cons_succ, List.length_cons, List.length_nil, List.map_cons, List.map_nil, List.sum_cons, List.sum_nil, List.nil_append, List.cons_append, Option.toList, Value.category, reduceIte, Nat.reduceAdd, Nat.reduceLeDiff, Nat.reduceLT, Nat.reduceEqDiff, Nat.reduceMul, and_true, true_and, and_self, Nat.zero_add, Nat.add_zero, Nat.le_refl, true_or, or_true, not_true_eq_false, not_false_eq_true, zm_ft_int, zm_ft_long, zm_ft_ref, zm_ft_null, zm_ft_b0, zm_ft_b1, i_2, i_3, i_4, i_10, io_16, io_64, io_33, io_2, cF_ev, cF_bm, va_rf, cH_0, cH_1, cH_2, cH_3, cH_4, cH_5, uT4, uT5, uT6, uT7, uB1, uB2, uB3, uG, uV, mH_0, mH_1, mH_2, mH_3, mH_4, mH_5, mH_6, mH_7, mH_8, mH_9, mH_10, mH_11, mH_12, mH_13, mH_14, mH_15, mH_16, mH_17, mH_18, mH_19, mH_20, mH_21, vI0, vI1, vI2, vI3, vI5, vI17, vI18, vI19, vA4, vA6, vA7, vA8, vA9, vA10, vA11, vA12, vA13, vA14, vA15, vA16, vA20, vA21, vA22, vA23, vA24, vA25, vA26, vA27, vD]
  refine zm_call.of (ctR_isEvent h0.2.2.2.2.2.1.2.1 (nI k)) (Nat.le_refl _) (Nat.le_refl _) ?_
  simp only [zi_push, zi_ldi, zi_ldl, zi_lda, zi_sti, zi_stl, zi_sta, zi_inc, zi_b, zi_d, zi_u, zi_bl, zi_dl, zi_ul, zi_lcmp, zi_i2l, zi_l2i, zi_if, zi_ic, zi_nul, zi_dup, zi_pop, zi_dup_x1, zi_dup2, zi_gf, zi_pf, zi_ia, zi_is, zi_la, zi_lst, zi_aa, zi_as, zi_len, zi_new, zi_na, zi_mx, zi_mn, zi_sw, zi_swx, zi_cv, zi_cs, zi_ci, zi_obj, zi_iret, zi_lret, zi_zret, zi_aret, zi_vret, zm_s1, zm_s2, zm_k, zm_tk, zm_Rt, zm_is, List.getElem?_cons_zero, List.getElem?_cons_succ, List.set_cons_zero, List.set_cons_succ, List.length_cons, List.length_nil, List.map_cons, List.map_nil, List.sum_cons, List.sum_nil, List.nil_append, List.cons_append, Option.toList, Value.category, reduceIte, Nat.reduceAdd, Nat.reduceLeDiff, Nat.reduceLT, Nat.reduceEqDiff, Nat.reduceMul, and_true, true_and, and_self, Nat.zero_add, Nat.add_zero, Nat.le_refl, true_or, or_true, not_true_eq_false, not_false_eq_true, zm_ft_int, zm_ft_long, zm_ft_ref, zm_ft_null, zm_ft_b0, zm_ft_b1, i_2, i_3, i_4, i_10, io_16, io_64, io_33, io_2, cF_ev, cF_bm, va_rf, cH_0, cH_1, cH_2, cH_3, cH_4, cH_5, uT4, uT5, uT6, uT7, uB1, uB2, uB3, uG, uV, mH_0, mH_1, mH_2, mH_3, mH_4, mH_5, mH_6, mH_7, mH_8, mH_9, mH_10, mH_11, mH_12, mH_13, mH_14, mH_15, mH_16, mH_17, mH_18, mH_19, mH_20, mH_21, vI0, vI1, vI2, vI3, vI5, vI17, vI18, vI19, vA4, vA6, vA7, vA8, vA9, vA10, vA11, vA12, vA13, vA14, vA15, vA16, vA20, vA21, vA22, vA23, vA24, vA25, vA26, vA27, vD]
  refine ⟨fun p => absurd ((noN_in (by omega)).mp p) (noN_nI (by omega) hk), fun _ => ?_⟩
  refine zm_call.of (ctR_in32 s (a := 0) (b := 1) (by decide) (by decide)) (Nat.le_refl _) (Nat.le_refl _) ?_
  simp only [zi_push, zi_ldi, zi_ldl, zi_lda, zi_sti, zi_stl, zi_sta, zi_inc, zi_b, zi_d, zi_u, zi_bl, zi_dl, zi_ul, zi_lcmp, zi_i2l, zi_l2i, zi_if, zi_ic, zi_nul, zi_dup, zi_pop, zi_dup_x1, zi_dup2, zi_gf, zi_pf, zi_ia, zi_is, zi_la, zi_lst, zi_aa, zi_as, zi_len, zi_new, zi_na, zi_mx, zi_mn, zi_sw, zi_swx, zi_cv, zi_cs, zi_ci, zi_obj, zi_iret, zi_lret, zi_zret, zi_aret, zi_vret, zm_s1, zm_s2, zm_k, zm_tk, zm_Rt, zm_is, List.getElem?_cons_zero, List.getElem?_cons_succ, List.set_cons_zero, List.set_cons_succ, List.length_cons, List.length_nil, List.map_cons, List.map_nil, List.sum_cons, List.sum_nil, List.nil_append, List.cons_append, Option.toList, Value.category, reduceIte, Nat.reduceAdd, Nat.reduceLeDiff, Nat.reduceLT, Nat.reduceEqDiff, Nat.reduceMul, and_true, true_and, and_self, Nat.zero_add, Nat.add_zero, Nat.le_refl, true_or, or_true, not_true_eq_false, not_false_eq_true, zm_ft_int, zm_ft_long, zm_ft_ref, zm_ft_null, zm_ft_b0, zm_ft_b1, i_2, i_3, i_4, i_10, io_16, io_64, io_33, io_2, cF_ev, cF_bm, va_rf, cH_0, cH_1, cH_2, cH_3, cH_4, cH_5, uT4, uT5, uT6, uT7, uB1, uB2, uB3, uG, uV, mH_0, mH_1, mH_2, mH_3, mH_4, mH_5, mH_6, mH_7, mH_8, mH_9, mH_10, mH_11, mH_12, mH_13, mH_14, mH_15, mH_16, mH_17, mH_18, mH_19, mH_20, mH_21, vI0, vI1, vI2, vI3, vI5, vI17, vI18, vI19, vA4, vA6, vA7, vA8, vA9, vA10, vA11, vA12, vA13, vA14, vA15, vA16, vA20, vA21, vA22, vA23, vA24, vA25, vA26, vA27, vD, nI_clamp (show k < 2 ^ 31 by omega), rest_iff ho, ho.1.2.2.2.2.1]
  refine ⟨fun p => absurd p c1, fun p => ⟨vp_in_nI (by omega) (by decide), fun r => absurd r c2, fun r => vp_in_nI (by omega) (by decide)⟩⟩
theorem staff_rel (h : RR C M ec bc gc) {k : Nat} (hk : k < ec) (s : Int32) (hr : c_ref C k (c_in s 0 1) = 0) : RR (sE (c_take C bc) k 8 s) (tI (tA (tI M 0 0) 11 k s) 18 0) ec 0 gc := by
  obtain ⟨c1, c2⟩ := c_ref_0 hr
  have ht := take_rel (M' := tI (tI M 0 0) 18 0) h.1 rfl rfl rfl rfl rfl rfl rfl
  refine ⟨?_, ⟨by unfold vB; rw [cV_sE, c_take_V]; exact h.2.1, bB_0 _⟩⟩
  have hE : ∀ i x, (i ≠ k ∨ x ≠ 8) → cE (sE (c_take C bc) k 8 s) i x = cE (c_take C bc) i x := fun i x hx => by
    rw [cE_sE]
    unfold up2
    rw [if_neg (by omega)]
  have hA : ∀ y, y ≠ 11 → mA (tI (tA (tI M 0 0) 11 k s) 18 0) y = mA (tI (tI M 0 0) 18 0) y := fun y hy => tA_ne _ _ _ hy
  have hAi : ∀ y i, i ≠ k → mA (tI (tA (tI M 0 0) 11 k s) 18 0) y i = mA (tI (tI M 0 0) 18 0) y i := fun y i hi => tA_i _ _ _ _ hi
  refine rR_ev ht rfl rfl rfl rfl rfl rfl rfl rfl rfl (fun e _ => hE e 10 (Or.inr (by decide))) ⟨ht.2.2.2.2.2.1.1, ht.2.2.2.2.2.1.2.1, fun i hi => ?_⟩ (hA 4 (by decide)) (hA 16 (by decide)) rfl rfl rfl rfl rfl
  have g := ht.2.2.2.2.2.1.2.2 i hi
  by_cases e : i = k
  · subst e
    refine eOK_put (fun x _ h8 h9 h17 => hE i x (Or.inr (by omega))) (fun y _ _ h11 h12 h13 => by rw [hA y (by omega)]) (hA 14 (by decide)) ?_ ?_ ?_ ?_ g
    · rw [cE_sE, up2_eq, if_pos rfl]
      show mA (tA (tI M 0 0) 11 i s) 11 i = s
      rw [tA_at, upd_at]
    · rw [hE _ 9 (Or.inr (by decide)), hA 12 (by decide)]
      exact g.1.2.2.2.2.2.1
    · rw [hE _ 17 (Or.inr (by decide)), hA 13 (by decide)]
      exact g.1.2.2.2.2.2.2.1
    · rw [cE_sE, up2_eq, if_pos rfl]
      exact c_in_inR (a := 0) (b := 1) (by decide) (by decide) (by decide) (by decide) c1
  · exact eOK_same (fun x _ => hE i x (Or.inl e)) (fun y _ _ _ => hAi y i e) (fun k _ => by unfold r_hd; rw [hA 14 (by decide)]) g
theorem j_staff (h : RR C M ec bc gc) (x s : Int32) : jI w o q mX3_staff mX4_staff [.int x, .int s] C M := by
  have hec : ec ≤ 64 := h.1.2.2.2.2.2.1.1
  by_cases hx : noN x ec
  · exact ⟨-1002, C, tI M 0 0, ec, bc, gc, fun f n => ctS_staff1 h.1.2.1 hx s, fun f n => ctR_staff1 h.1 hx s, RR_th h 0⟩
  · obtain ⟨k, hk, rfl⟩ := noN_not (by omega) hx
    by_cases hr : c_ref C k (c_in s 0 1) = 0
    · refine ⟨cE C k 8, _, _, ec, 0, gc, fun f n => ?_, fun f n => ctR_staff3 h.1 hk s hr, staff_rel h hk s hr⟩
      have ct := ctS_staff3 (w := w) (f := f) (o := o) (n := n) hec h.1.2.2.2.2.1 h.1.2.1 h.1.2.2.1 h.1.1 hk s hr
      rw [c_take_E C bc k (by decide)] at ct
      exact ct
    · exact ⟨c_ref C k (c_in s 0 1), C, tI M 0 0, ec, bc, gc, fun f n => ctS_staff2 hec h.1.2.1 hk s hr, fun f n => ctR_staff2 h.1 hk s hr, RR_th h 0⟩

theorem ctR_mark1 (h : rR C M ec bc gc) {x : Int32} (hx : noN x ec) (s : Int32) : zm_C w mX4_mark [.ref q, .int x, .int s] (mH f q M, n) (some (.int (-1002))) (mH f q (tI M 0 0), n) := by
  have h0 : rR C (tI M 0 0) ec bc gc := rR_I h rfl rfl rfl rfl rfl rfl rfl rfl
  have hec : ec ≤ 64 := h.2.2.2.2.2.1.1
  refine zm_C.of (mc := 0) (ms := 0) rfl rfl (by decide) (Nat.le_of_ble_eq_true rfl) ?_
  intro Γ X
  refine bkX4_mark_0 X [some (.ref q), some (.int x), some (.int s), none] [] _ ?_
  simp only [zi_push, zi_ldi, zi_ldl, zi_lda, zi_sti, zi_stl, zi_sta, zi_inc, zi_b, zi_d, zi_u, zi_bl, zi_dl, zi_ul, zi_lcmp, zi_i2l, zi_l2i, zi_if, zi_ic, zi_nul, zi_dup, zi_pop, zi_dup_x1, zi_dup2, zi_gf, zi_pf, zi_ia, zi_is, zi_la, zi_lst, zi_aa, zi_as, zi_len, zi_new, zi_na, zi_mx, zi_mn, zi_sw, zi_swx, zi_cv, zi_cs, zi_ci, zi_obj, zi_iret, zi_lret, zi_zret, zi_aret, zi_vret, zm_s1, zm_s2, zm_k, zm_tk, zm_Rt, zm_is, List.getElem?_cons_zero, List.getElem?_cons_succ, List.set_cons_zero, List.set_cons_succ, List.length_cons, List.length_nil, List.map_cons, List.map_nil, List.sum_cons, List.sum_nil, List.nil_append, List.cons_append, Option.toList, Value.category, reduceIte, Nat.reduceAdd, Nat.reduceLeDiff, Nat.reduceLT, Nat.reduceEqDiff, Nat.reduceMul, and_true, true_and, and_self, Nat.zero_add, Nat.add_zero, Nat.le_refl, true_or, or_true, not_true_eq_false, not_false_eq_true, zm_ft_int, zm_ft_long, zm_ft_ref, zm_ft_null, zm_ft_b0, zm_ft_b1, i_2, i_3, i_4, i_10, io_16, io_64, io_33, io_2, cF_ev, cF_bm, va_rf, cH_0, cH_1, cH_2, cH_3, cH_4, cH_5, uT4, uT5, uT6, uT7, uB1, uB2, uB3, uG, uV, mH_0, mH_1, mH_2, mH_3, mH_4, mH_5, mH_6, mH_7, mH_8, mH_9, mH_10, mH_11, mH_12, mH_13, mH_14, mH_15, mH_16, mH_17, mH_18, mH_19, mH_20, mH_21, vI0, vI1, vI2, vI3, vI5, vI17, vI18, vI19, vA4, vA6, vA7, vA8, vA9, vA10, vA11, vA12, vA13, vA14, vA15, vA16, vA20, vA21, vA22, vA23, vA24, vA25, vA26, vA27, vD]
  refine zm_call.of (ctR_isEvent h0.2.2.2.2.2.1.2.1 x) (Nat.le_refl _) (Nat.le_refl _) ?_
  simp only [zi_push, zi_ldi, zi_ldl, zi_lda, zi_sti, zi_stl, zi_sta, zi_inc, zi_b, zi_d, zi_u, zi_bl, zi_dl, zi_ul, zi_lcmp, zi_i2l, zi_l2i, zi_if, zi_ic, zi_nul, zi_dup, zi_pop, zi_dup_x1, zi_dup2, zi_gf, zi_pf, zi_ia, zi_is, zi_la, zi_lst, zi_aa, zi_as, zi_len, zi_new, zi_na, zi_mx, zi_mn, zi_sw, zi_swx, zi_cv, zi_cs, zi_ci, zi_obj, zi_iret, zi_lret, zi_zret, zi_aret, zi_vret, zm_s1, zm_s2, zm_k, zm_tk, zm_Rt, zm_is, List.getElem?_cons_zero, List.getElem?_cons_succ, List.set_cons_zero, List.set_cons_succ, List.length_cons, List.length_nil, List.map_cons, List.map_nil, List.sum_cons, List.sum_nil, List.nil_append, List.cons_append, Option.toList, Value.category, reduceIte, Nat.reduceAdd, Nat.reduceLeDiff, Nat.reduceLT, Nat.reduceEqDiff, Nat.reduceMul, and_true, true_and, and_self, Nat.zero_add, Nat.add_zero, Nat.le_refl, true_or, or_true, not_true_eq_false, not_false_eq_true, zm_ft_int, zm_ft_long, zm_ft_ref, zm_ft_null, zm_ft_b0, zm_ft_b1, i_2, i_3, i_4, i_10, io_16, io_64, io_33, io_2, cF_ev, cF_bm, va_rf, cH_0, cH_1, cH_2, cH_3, cH_4, cH_5, uT4, uT5, uT6, uT7, uB1, uB2, uB3, uG, uV, mH_0, mH_1, mH_2, mH_3, mH_4, mH_5, mH_6, mH_7, mH_8, mH_9, mH_10, mH_11, mH_12, mH_13, mH_14, mH_15, mH_16, mH_17, mH_18, mH_19, mH_20, mH_21, vI0, vI1, vI2, vI3, vI5, vI17, vI18, vI19, vA4, vA6, vA7, vA8, vA9, vA10, vA11, vA12, vA13, vA14, vA15, vA16, vA20, vA21, vA22, vA23, vA24, vA25, vA26, vA27, vD]
  refine ⟨fun _ => trivial, fun p => absurd ((noN_in (by omega)).mpr hx) p⟩
theorem ctR_mark2 (h : rR C M ec bc gc) {k : Nat} (hk : k < ec) (s : Int32) (hr : ¬ c_ref C k (c_in s 0 2) = 0) : zm_C w mX4_mark [.ref q, .int (nI k), .int s] (mH f q M, n) (some (.int (c_ref C k (c_in s 0 2)))) (mH f q (tI M 0 0), n) := by
  have h0 : rR C (tI M 0 0) ec bc gc := rR_I h rfl rfl rfl rfl rfl rfl rfl rfl
  have hec : ec ≤ 64 := h.2.2.2.2.2.1.1
  have ho := h0.2.2.2.2.2.1.2.2 k hk
  refine zm_C.of (mc := 0) (ms := 0) rfl rfl (by decide) (Nat.le_of_ble_eq_true rfl) ?_
  intro Γ X
  refine bkX4_mark_0 X [some (.ref q), some (.int (nI k)), some (.int s), none] [] _ ?_
  simp only [zi_push, zi_ldi, zi_ldl, zi_lda, zi_sti, zi_stl, zi_sta, zi_inc, zi_b, zi_d, zi_u, zi_bl, zi_dl, zi_ul, zi_lcmp, zi_i2l, zi_l2i, zi_if, zi_ic, zi_nul, zi_dup, zi_pop, zi_dup_x1, zi_dup2, zi_gf, zi_pf, zi_ia, zi_is, zi_la, zi_lst, zi_aa, zi_as, zi_len, zi_new, zi_na, zi_mx, zi_mn, zi_sw, zi_swx, zi_cv, zi_cs, zi_ci, zi_obj, zi_iret, zi_lret, zi_zret, zi_aret, zi_vret, zm_s1, zm_s2, zm_k, zm_tk, zm_Rt, zm_is, List.getElem?_cons_zero, List.getElem?_cons_succ, List.set_cons_zero, List.set_cons_succ, List.length_cons, List.length_nil, List.map_cons, List.map_nil, List.sum_cons, List.sum_nil, List.nil_append, List.cons_append, Option.toList, Value.category, reduceIte, Nat.reduceAdd, Nat.reduceLeDiff, Nat.reduceLT, Nat.reduceEqDiff, Nat.reduceMul, and_true, true_and, and_self, Nat.zero_add, Nat.add_zero, Nat.le_refl, true_or, or_true, not_true_eq_false, not_false_eq_true, zm_ft_int, zm_ft_long, zm_ft_ref, zm_ft_null, zm_ft_b0, zm_ft_b1, i_2, i_3, i_4, i_10, io_16, io_64, io_33, io_2, cF_ev, cF_bm, va_rf, cH_0, cH_1, cH_2, cH_3, cH_4, cH_5, uT4, uT5, uT6, uT7, uB1, uB2, uB3, uG, uV, mH_0, mH_1, mH_2, mH_3, mH_4, mH_5, mH_6, mH_7, mH_8, mH_9, mH_10, mH_11, mH_12, mH_13, mH_14, mH_15, mH_16, mH_17, mH_18, mH_19, mH_20, mH_21, vI0, vI1, vI2, vI3, vI5, vI17, vI18, vI19, vA4, vA6, vA7, vA8, vA9, vA10, vA11, vA12, vA13, vA14, vA15, vA16, vA20, vA21, vA22, vA23, vA24, vA25, vA26, vA27, vD]
  refine zm_call.of (ctR_isEvent h0.2.2.2.2.2.1.2.1 (nI k)) (Nat.le_refl _) (Nat.le_refl _) ?_
  simp only [zi_push, zi_ldi, zi_ldl, zi_lda, zi_sti, zi_stl, zi_sta, zi_inc, zi_b, zi_d, zi_u, zi_bl, zi_dl, zi_ul, zi_lcmp, zi_i2l, zi_l2i, zi_if, zi_ic, zi_nul, zi_dup, zi_pop, zi_dup_x1, zi_dup2, zi_gf, zi_pf, zi_ia, zi_is, zi_la, zi_lst, zi_aa, zi_as, zi_len, zi_new, zi_na, zi_mx, zi_mn, zi_sw, zi_swx, zi_cv, zi_cs, zi_ci, zi_obj, zi_iret, zi_lret, zi_zret, zi_aret, zi_vret, zm_s1, zm_s2, zm_k, zm_tk, zm_Rt, zm_is, List.getElem?_cons_zero, List.getElem?_cons_succ, List.set_cons_zero, List.set_cons_succ, List.length_cons, List.length_nil, List.map_cons, List.map_nil, List.sum_cons, List.sum_nil, List.nil_append, List.cons_append, Option.toList, Value.category, reduceIte, Nat.reduceAdd, Nat.reduceLeDiff, Nat.reduceLT, Nat.reduceEqDiff, Nat.reduceMul, and_true, true_and, and_self, Nat.zero_add, Nat.add_zero, Nat.le_refl, true_or, or_true, not_true_eq_false, not_false_eq_true, zm_ft_int, zm_ft_long, zm_ft_ref, zm_ft_null, zm_ft_b0, zm_ft_b1, i_2, i_3, i_4, i_10, io_16, io_64, io_33, io_2, cF_ev, cF_bm, va_rf, cH_0, cH_1, cH_2, cH_3, cH_4, cH_5, uT4, uT5, uT6, uT7, uB1, uB2, uB3, uG, uV, mH_0, mH_1, mH_2, mH_3, mH_4, mH_5, mH_6, mH_7, mH_8, mH_9, mH_10, mH_11, mH_12, mH_13, mH_14, mH_15, mH_16, mH_17, mH_18, mH_19, mH_20, mH_21, vI0, vI1, vI2, vI3, vI5, vI17, vI18, vI19, vA4, vA6, vA7, vA8, vA9, vA10, vA11, vA12, vA13, vA14, vA15, vA16, vA20, vA21, vA22, vA23, vA24, vA25, vA26, vA27, vD]
  refine ⟨fun p => absurd ((noN_in (by omega)).mp p) (noN_nI (by omega) hk), fun _ => ?_⟩
  refine zm_call.of (ctR_in32 s (a := 0) (b := 2) (by decide) (by decide)) (Nat.le_refl _) (Nat.le_refl _) ?_
  simp only [zi_push, zi_ldi, zi_ldl, zi_lda, zi_sti, zi_stl, zi_sta, zi_inc, zi_b, zi_d, zi_u, zi_bl, zi_dl, zi_ul, zi_lcmp, zi_i2l, zi_l2i, zi_if, zi_ic, zi_nul, zi_dup, zi_pop, zi_dup_x1, zi_dup2, zi_gf, zi_pf, zi_ia, zi_is, zi_la, zi_lst, zi_aa, zi_as, zi_len, zi_new, zi_na, zi_mx, zi_mn, zi_sw, zi_swx, zi_cv, zi_cs, zi_ci, zi_obj, zi_iret, zi_lret, zi_zret, zi_aret, zi_vret, zm_s1, zm_s2, zm_k, zm_tk, zm_Rt, zm_is, List.getElem?_cons_zero, List.getElem?_cons_succ, List.set_cons_zero, List.set_cons_succ, List.length_cons, List.length_nil, List.map_cons, List.map_nil, List.sum_cons, List.sum_nil, List.nil_append, List.cons_append, Option.toList, Value.category, reduceIte, Nat.reduceAdd, Nat.reduceLeDiff, Nat.reduceLT, Nat.reduceEqDiff, Nat.reduceMul, and_true, true_and, and_self, Nat.zero_add, Nat.add_zero, Nat.le_refl, true_or, or_true, not_true_eq_false, not_false_eq_true, zm_ft_int, zm_ft_long, zm_ft_ref, zm_ft_null, zm_ft_b0, zm_ft_b1, i_2, i_3, i_4, i_10, io_16, io_64, io_33, io_2, cF_ev, cF_bm, va_rf, cH_0, cH_1, cH_2, cH_3, cH_4, cH_5, uT4, uT5, uT6, uT7, uB1, uB2, uB3, uG, uV, mH_0, mH_1, mH_2, mH_3, mH_4, mH_5, mH_6, mH_7, mH_8, mH_9, mH_10, mH_11, mH_12, mH_13, mH_14, mH_15, mH_16, mH_17, mH_18, mH_19, mH_20, mH_21, vI0, vI1, vI2, vI3, vI5, vI17, vI18, vI19, vA4, vA6, vA7, vA8, vA9, vA10, vA11, vA12, vA13, vA14, vA15, vA16, vA20, vA21, vA22, vA23, vA24, vA25, vA26, vA27, vD, nI_clamp (show k < 2 ^ 31 by omega), rest_iff ho]
  refine ⟨fun p => by rw [c_ref, if_pos p], fun p => ⟨vp_in_nI (by omega) (by decide), fun r => by rw [c_ref, if_neg p, if_pos r], fun r => ?_⟩⟩
  exact absurd (by rw [c_ref, if_neg p, if_neg r]) hr

theorem ctR_mark3 (h : rR C M ec bc gc) {k : Nat} (hk : k < ec) (s : Int32) (hr : c_ref C k (c_in s 0 2) = 0) : zm_C w mX4_mark [.ref q, .int (nI k), .int s] (mH f q M, n) (some (.int (cE C k 9))) (mH f q (tI (tA (tI M 0 0) 12 k s) 18 0), n) := by
  have h0 : rR C (tI M 0 0) ec bc gc := rR_I h rfl rfl rfl rfl rfl rfl rfl rfl
  have hec : ec ≤ 64 := h.2.2.2.2.2.1.1
  have ho := h0.2.2.2.2.2.1.2.2 k hk
  obtain ⟨c1, c2⟩ := c_ref_0 hr
  refine zm_C.of (mc := 0) (ms := 0) rfl rfl (by decide) (Nat.le_of_ble_eq_true rfl) ?_
  intro Γ X
  refine bkX4_mark_0 X [some (.ref q), some (.int (nI k)), some (.int s), none] [] _ ?_
  simp only [zi_push, zi_ldi, zi_ldl, zi_lda, zi_sti, zi_stl, zi_sta, zi_inc, zi_b, zi_d, zi_u, zi_bl, zi_dl, zi_ul, zi_lcmp, zi_i2l, zi_l2i, zi_if, zi_ic, zi_nul, zi_dup, zi_pop, zi_dup_x1, zi_dup2, zi_gf, zi_pf, zi_ia, zi_is, zi_la, zi_lst, zi_aa, zi_as, zi_len, zi_new, zi_na, zi_mx, zi_mn, zi_sw, zi_swx, zi_cv, zi_cs, zi_ci, zi_obj, zi_iret, zi_lret, zi_zret, zi_aret, zi_vret, zm_s1, zm_s2, zm_k, zm_tk, zm_Rt, zm_is, List.getElem?_cons_zero, List.getElem?_cons_succ, List.set_cons_zero, List.set_cons_succ, List.length_cons, List.length_nil, List.map_cons, List.map_nil, List.sum_cons, List.sum_nil, List.nil_append, List.cons_append, Option.toList, Value.category, reduceIte, Nat.reduceAdd, Nat.reduceLeDiff, Nat.reduceLT, Nat.reduceEqDiff, Nat.reduceMul, and_true, true_and, and_self, Nat.zero_add, Nat.add_zero, Nat.le_refl, true_or, or_true, not_true_eq_false, not_false_eq_true, zm_ft_int, zm_ft_long, zm_ft_ref, zm_ft_null, zm_ft_b0, zm_ft_b1, i_2, i_3, i_4, i_10, io_16, io_64, io_33, io_2, cF_ev, cF_bm, va_rf, cH_0, cH_1, cH_2, cH_3, cH_4, cH_5, uT4, uT5, uT6, uT7, uB1, uB2, uB3, uG, uV, mH_0, mH_1, mH_2, mH_3, mH_4, mH_5, mH_6, mH_7, mH_8, mH_9, mH_10, mH_11, mH_12, mH_13, mH_14, mH_15, mH_16, mH_17, mH_18, mH_19, mH_20, mH_21, vI0, vI1, vI2, vI3, vI5, vI17, vI18, vI19, vA4, vA6, vA7, vA8, vA9, vA10, vA11, vA12, vA13, vA14, vA15, vA16, vA20, vA21, vA22, vA23, vA24, vA25, vA26, vA27, vD]
  refine zm_call.of (ctR_isEvent h0.2.2.2.2.2.1.2.1 (nI k)) (Nat.le_refl _) (Nat.le_refl _) ?_
  simp only [zi_push, zi_ldi, zi_ldl, zi_lda, zi_sti, zi_stl, zi_sta, zi_inc, zi_b, zi_d, zi_u, zi_bl, zi_dl, zi_ul, zi_lcmp, zi_i2l, zi_l2i, zi_if, zi_ic, zi_nul, zi_dup, zi_pop, zi_dup_x1, zi_dup2, zi_gf, zi_pf, zi_ia, zi_is, zi_la, zi_lst, zi_aa, zi_as, zi_len, zi_new, zi_na, zi_mx, zi_mn, zi_sw, zi_swx, zi_cv, zi_cs, zi_ci, zi_obj, zi_iret, zi_lret, zi_zret, zi_aret, zi_vret, zm_s1, zm_s2, zm_k, zm_tk, zm_Rt, zm_is, List.getElem?_cons_zero, List.getElem?_cons_succ, List.set_cons_zero, List.set_cons_succ, List.length_cons, List.length_nil, List.map_cons, List.map_nil, List.sum_cons, List.sum_nil, List.nil_append, List.cons_append, Option.toList, Value.category, reduceIte, Nat.reduceAdd, Nat.reduceLeDiff, Nat.reduceLT, Nat.reduceEqDiff, Nat.reduceMul, and_true, true_and, and_self, Nat.zero_add, Nat.add_zero, Nat.le_refl, true_or, or_true, not_true_eq_false, not_false_eq_true, zm_ft_int, zm_ft_long, zm_ft_ref, zm_ft_null, zm_ft_b0, zm_ft_b1, i_2, i_3, i_4, i_10, io_16, io_64, io_33, io_2, cF_ev, cF_bm, va_rf, cH_0, cH_1, cH_2, cH_3, cH_4, cH_5, uT4, uT5, uT6, uT7, uB1, uB2, uB3, uG, uV, mH_0, mH_1, mH_2, mH_3, mH_4, mH_5, mH_6, mH_7, mH_8, mH_9, mH_10, mH_11, mH_12, mH_13, mH_14, mH_15, mH_16, mH_17, mH_18, mH_19, mH_20, mH_21, vI0, vI1, vI2, vI3, vI5, vI17, vI18, vI19, vA4, vA6, vA7, vA8, vA9, vA10, vA11, vA12, vA13, vA14, vA15, vA16, vA20, vA21, vA22, vA23, vA24, vA25, vA26, vA27, vD]
  refine ⟨fun p => absurd ((noN_in (by omega)).mp p) (noN_nI (by omega) hk), fun _ => ?_⟩
  refine zm_call.of (ctR_in32 s (a := 0) (b := 2) (by decide) (by decide)) (Nat.le_refl _) (Nat.le_refl _) ?_
  simp only [zi_push, zi_ldi, zi_ldl, zi_lda, zi_sti, zi_stl, zi_sta, zi_inc, zi_b, zi_d, zi_u, zi_bl, zi_dl, zi_ul, zi_lcmp, zi_i2l, zi_l2i, zi_if, zi_ic, zi_nul, zi_dup, zi_pop, zi_dup_x1, zi_dup2, zi_gf, zi_pf, zi_ia, zi_is, zi_la, zi_lst, zi_aa, zi_as, zi_len, zi_new, zi_na, zi_mx, zi_mn, zi_sw, zi_swx, zi_cv, zi_cs, zi_ci, zi_obj, zi_iret, zi_lret, zi_zret, zi_aret, zi_vret, zm_s1, zm_s2, zm_k, zm_tk, zm_Rt, zm_is, List.getElem?_cons_zero, List.getElem?_cons_succ, List.set_cons_zero, List.set_cons_succ, List.length_cons, List.length_nil, List.map_cons, List.map_nil, List.sum_cons, List.sum_nil, List.nil_append, List.cons_append, Option.toList, Value.category, reduceIte, Nat.reduceAdd, Nat.reduceLeDiff, Nat.reduceLT, Nat.reduceEqDiff, Nat.reduceMul, and_true, true_and, and_self, Nat.zero_add, Nat.add_zero, Nat.le_refl, true_or, or_true, not_true_eq_false, not_false_eq_true, zm_ft_int, zm_ft_long, zm_ft_ref, zm_ft_null, zm_ft_b0, zm_ft_b1, i_2, i_3, i_4, i_10, io_16, io_64, io_33, io_2, cF_ev, cF_bm, va_rf, cH_0, cH_1, cH_2, cH_3, cH_4, cH_5, uT4, uT5, uT6, uT7, uB1, uB2, uB3, uG, uV, mH_0, mH_1, mH_2, mH_3, mH_4, mH_5, mH_6, mH_7, mH_8, mH_9, mH_10, mH_11, mH_12, mH_13, mH_14, mH_15, mH_16, mH_17, mH_18, mH_19, mH_20, mH_21, vI0, vI1, vI2, vI3, vI5, vI17, vI18, vI19, vA4, vA6, vA7, vA8, vA9, vA10, vA11, vA12, vA13, vA14, vA15, vA16, vA20, vA21, vA22, vA23, vA24, vA25, vA26, vA27, vD, nI_clamp (show k < 2 ^ 31 by omega), rest_iff ho, ho.1.2.2.2.2.2.1]
  refine ⟨fun p => absurd p c1, fun p => ⟨vp_in_nI (by omega) (by decide), fun r => absurd r c2, fun r => vp_in_nI (by omega) (by decide)⟩⟩
theorem mark_rel (h : RR C M ec bc gc) {k : Nat} (hk : k < ec) (s : Int32) (hr : c_ref C k (c_in s 0 2) = 0) : RR (sE (c_take C bc) k 9 s) (tI (tA (tI M 0 0) 12 k s) 18 0) ec 0 gc := by
  obtain ⟨c1, c2⟩ := c_ref_0 hr
  have ht := take_rel (M' := tI (tI M 0 0) 18 0) h.1 rfl rfl rfl rfl rfl rfl rfl
  refine ⟨?_, ⟨by unfold vB; rw [cV_sE, c_take_V]; exact h.2.1, bB_0 _⟩⟩
  have hE : ∀ i x, (i ≠ k ∨ x ≠ 9) → cE (sE (c_take C bc) k 9 s) i x = cE (c_take C bc) i x := fun i x hx => by
    rw [cE_sE]
    unfold up2
    rw [if_neg (by omega)]
  have hA : ∀ y, y ≠ 12 → mA (tI (tA (tI M 0 0) 12 k s) 18 0) y = mA (tI (tI M 0 0) 18 0) y := fun y hy => tA_ne _ _ _ hy
  have hAi : ∀ y i, i ≠ k → mA (tI (tA (tI M 0 0) 12 k s) 18 0) y i = mA (tI (tI M 0 0) 18 0) y i := fun y i hi => tA_i _ _ _ _ hi
  refine rR_ev ht rfl rfl rfl rfl rfl rfl rfl rfl rfl (fun e _ => hE e 10 (Or.inr (by decide))) ⟨ht.2.2.2.2.2.1.1, ht.2.2.2.2.2.1.2.1, fun i hi => ?_⟩ (hA 4 (by decide)) (hA 16 (by decide)) rfl rfl rfl rfl rfl
  have g := ht.2.2.2.2.2.1.2.2 i hi
  by_cases e : i = k
  · subst e
    refine eOK_put (fun x _ h8 h9 h17 => hE i x (Or.inr (by omega))) (fun y _ _ h11 h12 h13 => by rw [hA y (by omega)]) (hA 14 (by decide)) ?_ ?_ ?_ ?_ g
    · rw [hE _ 8 (Or.inr (by decide)), hA 11 (by decide)]
      exact g.1.2.2.2.2.1
    · rw [cE_sE, up2_eq, if_pos rfl]
      show mA (tA (tI M 0 0) 12 i s) 12 i = s
      rw [tA_at, upd_at]
    · rw [hE _ 17 (Or.inr (by decide)), hA 13 (by decide)]
      exact g.1.2.2.2.2.2.2.1
    · rw [hE _ 8 (Or.inr (by decide))]
      exact g.2.1.2.2.1
  · exact eOK_same (fun x _ => hE i x (Or.inl e)) (fun y _ _ _ => hAi y i e) (fun k _ => by unfold r_hd; rw [hA 14 (by decide)]) g
theorem j_mark (h : RR C M ec bc gc) (x s : Int32) : jI w o q mX3_mark mX4_mark [.int x, .int s] C M := by
  have hec : ec ≤ 64 := h.1.2.2.2.2.2.1.1
  by_cases hx : noN x ec
  · exact ⟨-1002, C, tI M 0 0, ec, bc, gc, fun f n => ctS_mark1 h.1.2.1 hx s, fun f n => ctR_mark1 h.1 hx s, RR_th h 0⟩
  · obtain ⟨k, hk, rfl⟩ := noN_not (by omega) hx
    by_cases hr : c_ref C k (c_in s 0 2) = 0
    · refine ⟨cE C k 9, _, _, ec, 0, gc, fun f n => ?_, fun f n => ctR_mark3 h.1 hk s hr, mark_rel h hk s hr⟩
      have ct := ctS_mark3 (w := w) (f := f) (o := o) (n := n) hec h.1.2.2.2.2.1 h.1.2.1 h.1.2.2.1 h.1.1 hk s hr
      rw [c_take_E C bc k (by decide)] at ct
      exact ct
    · exact ⟨c_ref C k (c_in s 0 2), C, tI M 0 0, ec, bc, gc, fun f n => ctS_mark2 hec h.1.2.1 hk s hr, fun f n => ctR_mark2 h.1 hk s hr, RR_th h 0⟩

theorem ctR_broken1 (h : rR C M ec bc gc) {x : Int32} (hx : noN x ec) (s : Int32) (b : Int32) : zm_C w mX4_broken [.ref q, .int x, .int s, .int b] (mH f q M, n) (some (.int (-1002))) (mH f q (tI M 0 0), n) := by
  have h0 : rR C (tI M 0 0) ec bc gc := rR_I h rfl rfl rfl rfl rfl rfl rfl rfl
  have hec : ec ≤ 64 := h.2.2.2.2.2.1.1
  refine zm_C.of (mc := 0) (ms := 0) rfl rfl (by decide) (Nat.le_of_ble_eq_true rfl) ?_
  intro Γ X
  refine bkX4_broken_0 X [some (.ref q), some (.int x), some (.int s), some (.int b), none] [] _ ?_
  simp only [zi_push, zi_ldi, zi_ldl, zi_lda, zi_sti, zi_stl, zi_sta, zi_inc, zi_b, zi_d, zi_u, zi_bl, zi_dl, zi_ul, zi_lcmp, zi_i2l, zi_l2i, zi_if, zi_ic, zi_nul, zi_dup, zi_pop, zi_dup_x1, zi_dup2, zi_gf, zi_pf, zi_ia, zi_is, zi_la, zi_lst, zi_aa, zi_as, zi_len, zi_new, zi_na, zi_mx, zi_mn, zi_sw, zi_swx, zi_cv, zi_cs, zi_ci, zi_obj, zi_iret, zi_lret, zi_zret, zi_aret, zi_vret, zm_s1, zm_s2, zm_k, zm_tk, zm_Rt, zm_is, List.getElem?_cons_zero, List.getElem?_cons_succ, List.set_cons_zero, List.set_cons_succ, List.length_cons, List.length_nil, List.map_cons, List.map_nil, List.sum_cons, List.sum_nil, List.nil_append, List.cons_append, Option.toList, Value.category, reduceIte, Nat.reduceAdd, Nat.reduceLeDiff, Nat.reduceLT, Nat.reduceEqDiff, Nat.reduceMul, and_true, true_and, and_self, Nat.zero_add, Nat.add_zero, Nat.le_refl, true_or, or_true, not_true_eq_false, not_false_eq_true, zm_ft_int, zm_ft_long, zm_ft_ref, zm_ft_null, zm_ft_b0, zm_ft_b1, i_2, i_3, i_4, i_10, io_16, io_64, io_33, io_2, cF_ev, cF_bm, va_rf, cH_0, cH_1, cH_2, cH_3, cH_4, cH_5, uT4, uT5, uT6, uT7, uB1, uB2, uB3, uG, uV, mH_0, mH_1, mH_2, mH_3, mH_4, mH_5, mH_6, mH_7, mH_8, mH_9, mH_10, mH_11, mH_12, mH_13, mH_14, mH_15, mH_16, mH_17, mH_18, mH_19, mH_20, mH_21, vI0, vI1, vI2, vI3, vI5, vI17, vI18, vI19, vA4, vA6, vA7, vA8, vA9, vA10, vA11, vA12, vA13, vA14, vA15, vA16, vA20, vA21, vA22, vA23, vA24, vA25, vA26, vA27, vD]
  refine zm_call.of (ctR_isEvent h0.2.2.2.2.2.1.2.1 x) (Nat.le_refl _) (Nat.le_refl _) ?_
  simp only [zi_push, zi_ldi, zi_ldl, zi_lda, zi_sti, zi_stl, zi_sta, zi_inc, zi_b, zi_d, zi_u, zi_bl, zi_dl, zi_ul, zi_lcmp, zi_i2l, zi_l2i, zi_if, zi_ic, zi_nul, zi_dup, zi_pop, zi_dup_x1, zi_dup2, zi_gf, zi_pf, zi_ia, zi_is, zi_la, zi_lst, zi_aa, zi_as, zi_len, zi_new, zi_na, zi_mx, zi_mn, zi_sw, zi_swx, zi_cv, zi_cs, zi_ci, zi_obj, zi_iret, zi_lret, zi_zret, zi_aret, zi_vret, zm_s1, zm_s2, zm_k, zm_tk, zm_Rt, zm_is, List.getElem?_cons_zero, List.getElem?_cons_succ, List.set_cons_zero, List.set_cons_succ, List.length_cons, List.length_nil, List.map_cons, List.map_nil, List.sum_cons, List.sum_nil, List.nil_append, List.cons_append, Option.toList, Value.category, reduceIte, Nat.reduceAdd, Nat.reduceLeDiff, Nat.reduceLT, Nat.reduceEqDiff, Nat.reduceMul, and_true, true_and, and_self, Nat.zero_add, Nat.add_zero, Nat.le_refl, true_or, or_true, not_true_eq_false, not_false_eq_true, zm_ft_int, zm_ft_long, zm_ft_ref, zm_ft_null, zm_ft_b0, zm_ft_b1, i_2, i_3, i_4, i_10, io_16, io_64, io_33, io_2, cF_ev, cF_bm, va_rf, cH_0, cH_1, cH_2, cH_3, cH_4, cH_5, uT4, uT5, uT6, uT7, uB1, uB2, uB3, uG, uV, mH_0, mH_1, mH_2, mH_3, mH_4, mH_5, mH_6, mH_7, mH_8, mH_9, mH_10, mH_11, mH_12, mH_13, mH_14, mH_15, mH_16, mH_17, mH_18, mH_19, mH_20, mH_21, vI0, vI1, vI2, vI3, vI5, vI17, vI18, vI19, vA4, vA6, vA7, vA8, vA9, vA10, vA11, vA12, vA13, vA14, vA15, vA16, vA20, vA21, vA22, vA23, vA24, vA25, vA26, vA27, vD]
  refine ⟨fun _ => trivial, fun p => absurd ((noN_in (by omega)).mpr hx) p⟩
theorem ctR_broken2 (h : rR C M ec bc gc) {k : Nat} (hk : k < ec) (s : Int32) (b : Int32) (hr : ¬ c_ref C k (c_in s 2 4) = 0) : zm_C w mX4_broken [.ref q, .int (nI k), .int s, .int b] (mH f q M, n) (some (.int (c_ref C k (c_in s 2 4)))) (mH f q (tI M 0 0), n) := by
  have h0 : rR C (tI M 0 0) ec bc gc := rR_I h rfl rfl rfl rfl rfl rfl rfl rfl
  have hec : ec ≤ 64 := h.2.2.2.2.2.1.1
  have ho := h0.2.2.2.2.2.1.2.2 k hk
  refine zm_C.of (mc := 0) (ms := 0) rfl rfl (by decide) (Nat.le_of_ble_eq_true rfl) ?_
  intro Γ X
  refine bkX4_broken_0 X [some (.ref q), some (.int (nI k)), some (.int s), some (.int b), none] [] _ ?_
  simp only [zi_push, zi_ldi, zi_ldl, zi_lda, zi_sti, zi_stl, zi_sta, zi_inc, zi_b, zi_d, zi_u, zi_bl, zi_dl, zi_ul, zi_lcmp, zi_i2l, zi_l2i, zi_if, zi_ic, zi_nul, zi_dup, zi_pop, zi_dup_x1, zi_dup2, zi_gf, zi_pf, zi_ia, zi_is, zi_la, zi_lst, zi_aa, zi_as, zi_len, zi_new, zi_na, zi_mx, zi_mn, zi_sw, zi_swx, zi_cv, zi_cs, zi_ci, zi_obj, zi_iret, zi_lret, zi_zret, zi_aret, zi_vret, zm_s1, zm_s2, zm_k, zm_tk, zm_Rt, zm_is, List.getElem?_cons_zero, List.getElem?_cons_succ, List.set_cons_zero, List.set_cons_succ, List.length_cons, List.length_nil, List.map_cons, List.map_nil, List.sum_cons, List.sum_nil, List.nil_append, List.cons_append, Option.toList, Value.category, reduceIte, Nat.reduceAdd, Nat.reduceLeDiff, Nat.reduceLT, Nat.reduceEqDiff, Nat.reduceMul, and_true, true_and, and_self, Nat.zero_add, Nat.add_zero, Nat.le_refl, true_or, or_true, not_true_eq_false, not_false_eq_true, zm_ft_int, zm_ft_long, zm_ft_ref, zm_ft_null, zm_ft_b0, zm_ft_b1, i_2, i_3, i_4, i_10, io_16, io_64, io_33, io_2, cF_ev, cF_bm, va_rf, cH_0, cH_1, cH_2, cH_3, cH_4, cH_5, uT4, uT5, uT6, uT7, uB1, uB2, uB3, uG, uV, mH_0, mH_1, mH_2, mH_3, mH_4, mH_5, mH_6, mH_7, mH_8, mH_9, mH_10, mH_11, mH_12, mH_13, mH_14, mH_15, mH_16, mH_17, mH_18, mH_19, mH_20, mH_21, vI0, vI1, vI2, vI3, vI5, vI17, vI18, vI19, vA4, vA6, vA7, vA8, vA9, vA10, vA11, vA12, vA13, vA14, vA15, vA16, vA20, vA21, vA22, vA23, vA24, vA25, vA26, vA27, vD]
  refine zm_call.of (ctR_isEvent h0.2.2.2.2.2.1.2.1 (nI k)) (Nat.le_refl _) (Nat.le_refl _) ?_
  simp only [zi_push, zi_ldi, zi_ldl, zi_lda, zi_sti, zi_stl, zi_sta, zi_inc, zi_b, zi_d, zi_u, zi_bl, zi_dl, zi_ul, zi_lcmp, zi_i2l, zi_l2i, zi_if, zi_ic, zi_nul, zi_dup, zi_pop, zi_dup_x1, zi_dup2, zi_gf, zi_pf, zi_ia, zi_is, zi_la, zi_lst, zi_aa, zi_as, zi_len, zi_new, zi_na, zi_mx, zi_mn, zi_sw, zi_swx, zi_cv, zi_cs, zi_ci, zi_obj, zi_iret, zi_lret, zi_zret, zi_aret, zi_vret, zm_s1, zm_s2, zm_k, zm_tk, zm_Rt, zm_is, List.getElem?_cons_zero, List.getElem?_cons_succ, List.set_cons_zero, List.set_cons_succ, List.length_cons, List.length_nil, List.map_cons, List.map_nil, List.sum_cons, List.sum_nil, List.nil_append, List.cons_append, Option.toList, Value.category, reduceIte, Nat.reduceAdd, Nat.reduceLeDiff, Nat.reduceLT, Nat.reduceEqDiff, Nat.reduceMul, and_true, true_and, and_self, Nat.zero_add, Nat.add_zero, Nat.le_refl, true_or, or_true, not_true_eq_false, not_false_eq_true, zm_ft_int, zm_ft_long, zm_ft_ref, zm_ft_null, zm_ft_b0, zm_ft_b1, i_2, i_3, i_4, i_10, io_16, io_64, io_33, io_2, cF_ev, cF_bm, va_rf, cH_0, cH_1, cH_2, cH_3, cH_4, cH_5, uT4, uT5, uT6, uT7, uB1, uB2, uB3, uG, uV, mH_0, mH_1, mH_2, mH_3, mH_4, mH_5, mH_6, mH_7, mH_8, mH_9, mH_10, mH_11, mH_12, mH_13, mH_14, mH_15, mH_16, mH_17, mH_18, mH_19, mH_20, mH_21, vI0, vI1, vI2, vI3, vI5, vI17, vI18, vI19, vA4, vA6, vA7, vA8, vA9, vA10, vA11, vA12, vA13, vA14, vA15, vA16, vA20, vA21, vA22, vA23, vA24, vA25, vA26, vA27, vD]
  refine ⟨fun p => absurd ((noN_in (by omega)).mp p) (noN_nI (by omega) hk), fun _ => ?_⟩
  refine zm_call.of (ctR_in32 s (a := 2) (b := 4) (by decide) (by decide)) (Nat.le_refl _) (Nat.le_refl _) ?_
  simp only [zi_push, zi_ldi, zi_ldl, zi_lda, zi_sti, zi_stl, zi_sta, zi_inc, zi_b, zi_d, zi_u, zi_bl, zi_dl, zi_ul, zi_lcmp, zi_i2l, zi_l2i, zi_if, zi_ic, zi_nul, zi_dup, zi_pop, zi_dup_x1, zi_dup2, zi_gf, zi_pf, zi_ia, zi_is, zi_la, zi_lst, zi_aa, zi_as, zi_len, zi_new, zi_na, zi_mx, zi_mn, zi_sw, zi_swx, zi_cv, zi_cs, zi_ci, zi_obj, zi_iret, zi_lret, zi_zret, zi_aret, zi_vret, zm_s1, zm_s2, zm_k, zm_tk, zm_Rt, zm_is, List.getElem?_cons_zero, List.getElem?_cons_succ, List.set_cons_zero, List.set_cons_succ, List.length_cons, List.length_nil, List.map_cons, List.map_nil, List.sum_cons, List.sum_nil, List.nil_append, List.cons_append, Option.toList, Value.category, reduceIte, Nat.reduceAdd, Nat.reduceLeDiff, Nat.reduceLT, Nat.reduceEqDiff, Nat.reduceMul, and_true, true_and, and_self, Nat.zero_add, Nat.add_zero, Nat.le_refl, true_or, or_true, not_true_eq_false, not_false_eq_true, zm_ft_int, zm_ft_long, zm_ft_ref, zm_ft_null, zm_ft_b0, zm_ft_b1, i_2, i_3, i_4, i_10, io_16, io_64, io_33, io_2, cF_ev, cF_bm, va_rf, cH_0, cH_1, cH_2, cH_3, cH_4, cH_5, uT4, uT5, uT6, uT7, uB1, uB2, uB3, uG, uV, mH_0, mH_1, mH_2, mH_3, mH_4, mH_5, mH_6, mH_7, mH_8, mH_9, mH_10, mH_11, mH_12, mH_13, mH_14, mH_15, mH_16, mH_17, mH_18, mH_19, mH_20, mH_21, vI0, vI1, vI2, vI3, vI5, vI17, vI18, vI19, vA4, vA6, vA7, vA8, vA9, vA10, vA11, vA12, vA13, vA14, vA15, vA16, vA20, vA21, vA22, vA23, vA24, vA25, vA26, vA27, vD, nI_clamp (show k < 2 ^ 31 by omega), rest_iff ho]
  refine ⟨fun p => by rw [c_ref, if_pos p], fun p => ⟨vp_in_nI (by omega) (by decide), fun r => by rw [c_ref, if_neg p, if_pos r], fun r => ?_⟩⟩
  exact absurd (by rw [c_ref, if_neg p, if_neg r]) hr

theorem and1 (y : Int32) : y &&& 1 = 0 ∨ y &&& 1 = 1 := by
  have h : ∀ z : BitVec 32, z &&& 1#32 = 0#32 ∨ z &&& 1#32 = 1#32 := by
    intro z
    by_cases hb : z.getLsbD 0
    · right
      apply BitVec.eq_of_getLsbD_eq
      intro i hi
      rw [BitVec.getLsbD_and, BitVec.getLsbD_one]
      by_cases h0 : i = 0
      · subst h0; simp [hb]
      · simp [h0]
    · left
      apply BitVec.eq_of_getLsbD_eq
      intro i hi
      rw [BitVec.getLsbD_and, BitVec.getLsbD_one]
      by_cases h0 : i = 0
      · subst h0
        rw [Bool.not_eq_true] at hb
        rw [hb]
        simp
      · simp [h0]
  rcases h y.toBitVec with h | h
  · left
    apply Int32.toBitVec_inj.mp
    rw [Int32.toBitVec_and]
    exact h
  · right
    apply Int32.toBitVec_inj.mp
    rw [Int32.toBitVec_and]
    exact h
theorem zb_and1 (y : Int32) : zb (y &&& 1 = 1) = y &&& 1 := by
  unfold zb
  rcases and1 y with h | h
  · rw [h, if_neg (by decide)]
  · rw [h, if_pos rfl]
theorem ctR_broken3 (h : rR C M ec bc gc) {k : Nat} (hk : k < ec) (s b : Int32) (hr : c_ref C k (c_in s 2 4) = 0) : zm_C w mX4_broken [.ref q, .int (nI k), .int s, .int b] (mH f q M, n) (some (.int (zb (cE C k 17 >>> (s &&& 31) &&& 1 = 1)))) (mH f q (tI (tA (tI M 0 0) 13 k (c_brk C k s b)) 18 0), n) := by
  have h0 : rR C (tI M 0 0) ec bc gc := rR_I h rfl rfl rfl rfl rfl rfl rfl rfl
  have hec : ec ≤ 64 := h.2.2.2.2.2.1.1
  have ho := h0.2.2.2.2.2.1.2.2 k hk
  obtain ⟨c1, c2⟩ := c_ref_0 hr
  rw [zb_and1]
  refine zm_C.of (mc := 0) (ms := 0) rfl rfl (by decide) (Nat.le_of_ble_eq_true rfl) ?_
  intro Γ X
  refine bkX4_broken_0 X [some (.ref q), some (.int (nI k)), some (.int s), some (.int b), none] [] _ ?_
  simp only [zi_push, zi_ldi, zi_ldl, zi_lda, zi_sti, zi_stl, zi_sta, zi_inc, zi_b, zi_d, zi_u, zi_bl, zi_dl, zi_ul, zi_lcmp, zi_i2l, zi_l2i, zi_if, zi_ic, zi_nul, zi_dup, zi_pop, zi_dup_x1, zi_dup2, zi_gf, zi_pf, zi_ia, zi_is, zi_la, zi_lst, zi_aa, zi_as, zi_len, zi_new, zi_na, zi_mx, zi_mn, zi_sw, zi_swx, zi_cv, zi_cs, zi_ci, zi_obj, zi_iret, zi_lret, zi_zret, zi_aret, zi_vret, zm_s1, zm_s2, zm_k, zm_tk, zm_Rt, zm_is, List.getElem?_cons_zero, List.getElem?_cons_succ, List.set_cons_zero, List.set_cons_succ, List.length_cons, List.length_nil, List.map_cons, List.map_nil, List.sum_cons, List.sum_nil, List.nil_append, List.cons_append, Option.toList, Value.category, reduceIte, Nat.reduceAdd, Nat.reduceLeDiff, Nat.reduceLT, Nat.reduceEqDiff, Nat.reduceMul, and_true, true_and, and_self, Nat.zero_add, Nat.add_zero, Nat.le_refl, true_or, or_true, not_true_eq_false, not_false_eq_true, zm_ft_int, zm_ft_long, zm_ft_ref, zm_ft_null, zm_ft_b0, zm_ft_b1, i_2, i_3, i_4, i_10, io_16, io_64, io_33, io_2, cF_ev, cF_bm, va_rf, cH_0, cH_1, cH_2, cH_3, cH_4, cH_5, uT4, uT5, uT6, uT7, uB1, uB2, uB3, uG, uV, mH_0, mH_1, mH_2, mH_3, mH_4, mH_5, mH_6, mH_7, mH_8, mH_9, mH_10, mH_11, mH_12, mH_13, mH_14, mH_15, mH_16, mH_17, mH_18, mH_19, mH_20, mH_21, vI0, vI1, vI2, vI3, vI5, vI17, vI18, vI19, vA4, vA6, vA7, vA8, vA9, vA10, vA11, vA12, vA13, vA14, vA15, vA16, vA20, vA21, vA22, vA23, vA24, vA25, vA26, vA27, vD]
  refine zm_call.of (ctR_isEvent h0.2.2.2.2.2.1.2.1 (nI k)) (Nat.le_refl _) (Nat.le_refl _) ?_
  simp only [zi_push, zi_ldi, zi_ldl, zi_lda, zi_sti, zi_stl, zi_sta, zi_inc, zi_b, zi_d, zi_u, zi_bl, zi_dl, zi_ul, zi_lcmp, zi_i2l, zi_l2i, zi_if, zi_ic, zi_nul, zi_dup, zi_pop, zi_dup_x1, zi_dup2, zi_gf, zi_pf, zi_ia, zi_is, zi_la, zi_lst, zi_aa, zi_as, zi_len, zi_new, zi_na, zi_mx, zi_mn, zi_sw, zi_swx, zi_cv, zi_cs, zi_ci, zi_obj, zi_iret, zi_lret, zi_zret, zi_aret, zi_vret, zm_s1, zm_s2, zm_k, zm_tk, zm_Rt, zm_is, List.getElem?_cons_zero, List.getElem?_cons_succ, List.set_cons_zero, List.set_cons_succ, List.length_cons, List.length_nil, List.map_cons, List.map_nil, List.sum_cons, List.sum_nil, List.nil_append, List.cons_append, Option.toList, Value.category, reduceIte, Nat.reduceAdd, Nat.reduceLeDiff, Nat.reduceLT, Nat.reduceEqDiff, Nat.reduceMul, and_true, true_and, and_self, Nat.zero_add, Nat.add_zero, Nat.le_refl, true_or, or_true, not_true_eq_false, not_false_eq_true, zm_ft_int, zm_ft_long, zm_ft_ref, zm_ft_null, zm_ft_b0, zm_ft_b1, i_2, i_3, i_4, i_10, io_16, io_64, io_33, io_2, cF_ev, cF_bm, va_rf, cH_0, cH_1, cH_2, cH_3, cH_4, cH_5, uT4, uT5, uT6, uT7, uB1, uB2, uB3, uG, uV, mH_0, mH_1, mH_2, mH_3, mH_4, mH_5, mH_6, mH_7, mH_8, mH_9, mH_10, mH_11, mH_12, mH_13, mH_14, mH_15, mH_16, mH_17, mH_18, mH_19, mH_20, mH_21, vI0, vI1, vI2, vI3, vI5, vI17, vI18, vI19, vA4, vA6, vA7, vA8, vA9, vA10, vA11, vA12, vA13, vA14, vA15, vA16, vA20, vA21, vA22, vA23, vA24, vA25, vA26, vA27, vD]
  refine ⟨fun p => absurd ((noN_in (by omega)).mp p) (noN_nI (by omega) hk), fun _ => ?_⟩
  refine zm_call.of (ctR_in32 s (a := 2) (b := 4) (by decide) (by decide)) (Nat.le_refl _) (Nat.le_refl _) ?_
  simp only [zi_push, zi_ldi, zi_ldl, zi_lda, zi_sti, zi_stl, zi_sta, zi_inc, zi_b, zi_d, zi_u, zi_bl, zi_dl, zi_ul, zi_lcmp, zi_i2l, zi_l2i, zi_if, zi_ic, zi_nul, zi_dup, zi_pop, zi_dup_x1, zi_dup2, zi_gf, zi_pf, zi_ia, zi_is, zi_la, zi_lst, zi_aa, zi_as, zi_len, zi_new, zi_na, zi_mx, zi_mn, zi_sw, zi_swx, zi_cv, zi_cs, zi_ci, zi_obj, zi_iret, zi_lret, zi_zret, zi_aret, zi_vret, zm_s1, zm_s2, zm_k, zm_tk, zm_Rt, zm_is, List.getElem?_cons_zero, List.getElem?_cons_succ, List.set_cons_zero, List.set_cons_succ, List.length_cons, List.length_nil, List.map_cons, List.map_nil, List.sum_cons, List.sum_nil, List.nil_append, List.cons_append, Option.toList, Value.category, reduceIte, Nat.reduceAdd, Nat.reduceLeDiff, Nat.reduceLT, Nat.reduceEqDiff, Nat.reduceMul, and_true, true_and, and_self, Nat.zero_add, Nat.add_zero, Nat.le_refl, true_or, or_true, not_true_eq_false, not_false_eq_true, zm_ft_int, zm_ft_long, zm_ft_ref, zm_ft_null, zm_ft_b0, zm_ft_b1, i_2, i_3, i_4, i_10, io_16, io_64, io_33, io_2, cF_ev, cF_bm, va_rf, cH_0, cH_1, cH_2, cH_3, cH_4, cH_5, uT4, uT5, uT6, uT7, uB1, uB2, uB3, uG, uV, mH_0, mH_1, mH_2, mH_3, mH_4, mH_5, mH_6, mH_7, mH_8, mH_9, mH_10, mH_11, mH_12, mH_13, mH_14, mH_15, mH_16, mH_17, mH_18, mH_19, mH_20, mH_21, vI0, vI1, vI2, vI3, vI5, vI17, vI18, vI19, vA4, vA6, vA7, vA8, vA9, vA10, vA11, vA12, vA13, vA14, vA15, vA16, vA20, vA21, vA22, vA23, vA24, vA25, vA26, vA27, vD, nI_clamp (show k < 2 ^ 31 by omega), rest_iff ho, ho.1.2.2.2.2.2.2.1]
  refine ⟨fun p => absurd p c1, fun p => ⟨vp_in_nI (by omega) (by decide), fun r => absurd r c2, fun r => ⟨vp_in_nI (by omega) (by decide), fun t => ⟨vp_in_nI (by omega) (by decide), vp_in_nI (by omega) (by decide), ?_⟩, fun t => ⟨vp_in_nI (by omega) (by decide), vp_in_nI (by omega) (by decide), ?_⟩⟩⟩⟩
  · rw [c_brk, if_pos t]
  · rw [c_brk, if_neg t]
theorem broken_rel (h : RR C M ec bc gc) {k : Nat} (hk : k < ec) (s : Int32) : RR (sE (c_take C bc) k 17 s) (tI (tA (tI M 0 0) 13 k s) 18 0) ec 0 gc := by
  have ht := take_rel (M' := tI (tI M 0 0) 18 0) h.1 rfl rfl rfl rfl rfl rfl rfl
  refine ⟨?_, ⟨by unfold vB; rw [cV_sE, c_take_V]; exact h.2.1, bB_0 _⟩⟩
  have hE : ∀ i x, (i ≠ k ∨ x ≠ 17) → cE (sE (c_take C bc) k 17 s) i x = cE (c_take C bc) i x := fun i x hx => by
    rw [cE_sE]
    unfold up2
    rw [if_neg (by omega)]
  have hA : ∀ y, y ≠ 13 → mA (tI (tA (tI M 0 0) 13 k s) 18 0) y = mA (tI (tI M 0 0) 18 0) y := fun y hy => tA_ne _ _ _ hy
  have hAi : ∀ y i, i ≠ k → mA (tI (tA (tI M 0 0) 13 k s) 18 0) y i = mA (tI (tI M 0 0) 18 0) y i := fun y i hi => tA_i _ _ _ _ hi
  refine rR_ev ht rfl rfl rfl rfl rfl rfl rfl rfl rfl (fun e _ => hE e 10 (Or.inr (by decide))) ⟨ht.2.2.2.2.2.1.1, ht.2.2.2.2.2.1.2.1, fun i hi => ?_⟩ (hA 4 (by decide)) (hA 16 (by decide)) rfl rfl rfl rfl rfl
  have g := ht.2.2.2.2.2.1.2.2 i hi
  by_cases e : i = k
  · subst e
    refine eOK_put (fun x _ h8 h9 h17 => hE i x (Or.inr (by omega))) (fun y _ _ h11 h12 h13 => by rw [hA y (by omega)]) (hA 14 (by decide)) ?_ ?_ ?_ ?_ g
    · rw [hE _ 8 (Or.inr (by decide)), hA 11 (by decide)]
      exact g.1.2.2.2.2.1
    · rw [hE _ 9 (Or.inr (by decide)), hA 12 (by decide)]
      exact g.1.2.2.2.2.2.1
    · rw [cE_sE, up2_eq, if_pos rfl]
      show mA (tA (tI M 0 0) 13 i s) 13 i = s
      rw [tA_at, upd_at]
    · rw [hE _ 8 (Or.inr (by decide))]
      exact g.2.1.2.2.1
  · exact eOK_same (fun x _ => hE i x (Or.inl e)) (fun y _ _ _ => hAi y i e) (fun k _ => by unfold r_hd; rw [hA 14 (by decide)]) g

theorem j_broken (h : RR C M ec bc gc) (x s b : Int32) : jI w o q mX3_broken mX4_broken [.int x, .int s, .int b] C M := by
  have hec : ec ≤ 64 := h.1.2.2.2.2.2.1.1
  by_cases hx : noN x ec
  · exact ⟨-1002, C, tI M 0 0, ec, bc, gc, fun f n => ctS_broken1 h.1.2.1 hx s b, fun f n => ctR_broken1 h.1 hx s b, RR_th h 0⟩
  · obtain ⟨k, hk, rfl⟩ := noN_not (by omega) hx
    by_cases hr : c_ref C k (c_in s 2 4) = 0
    · refine ⟨zb (cE C k 17 >>> (s &&& 31) &&& 1 = 1), _, _, ec, 0, gc, fun f n => ?_, fun f n => ctR_broken3 h.1 hk s b hr, broken_rel h hk (c_brk C k s b)⟩
      have ct := ctS_broken3 (w := w) (f := f) (o := o) (n := n) hec h.1.2.2.2.2.1 h.1.2.1 h.1.2.2.1 h.1.1 hk s b hr
      have e : c_brk (c_take C bc) k s b = c_brk C k s b := by
        unfold c_brk
        rw [c_take_E C bc k (by decide)]
      rw [e, c_take_E C bc k (by decide)] at ct
      exact ct
    · exact ⟨c_ref C k (c_in s 2 4), C, tI M 0 0, ec, bc, gc, fun f n => ctS_broken2 hec h.1.2.1 hk s b hr, fun f n => ctR_broken2 h.1 hk s b hr, RR_th h 0⟩
theorem j_over (h : RR C M ec bc gc) (b : Int32) (hb : b = 0 ∨ b = 1) : jI w o q mX3_over mX4_over [.int b] C M := by
  have ht := take_rel (M' := tI (tI M 0 0) 18 0) h.1 rfl rfl rfl rfl rfl rfl rfl
  refine ⟨if cT C 7 = 0 then 0 else 1, sT (c_take C bc) 7 b, tI (tI (tI M 0 0) 17 b) 18 0, ec, 0, gc, fun f n => ?_, fun f n => ?_, ?_, ?_⟩
  · have ct := ctS_over (w := w) (f := f) (o := o) (n := n) h.1.2.2.2.2.1 h.1.2.2.1 h.1.1 b hb
    have e : cT (c_take C bc) 7 = cT C 7 := by rw [c_take_T, upd_ne _ _ (by decide)]
    rw [e] at ct
    exact ct
  · have e17 : mI (tI M 0 0) 17 = cT C 7 := h.1.2.2.2.2.2.2.2.1.2.2.1
    refine zm_C.of (mc := 0) (ms := 0) rfl rfl (by decide) (Nat.le_of_ble_eq_true rfl) ?_
    intro Γ X
    have k17 : ∀ y : Int32, y = (if cT C 7 = 0 then 0 else 1) → zm_V w Γ 17 [some (.ref q), some (.int b), none] [.int y] (mH f q (tI M 0 0), n) := by
      intro y hy
      refine bkX4_over_17 X _ _ _ ?_
      rcases hb with rfl | rfl
      · simp only [zi_push, zi_ldi, zi_ldl, zi_lda, zi_sti, zi_stl, zi_sta, zi_inc, zi_b, zi_d, zi_u, zi_bl, zi_dl, zi_ul, zi_lcmp, zi_i2l, zi_l2i, zi_if, zi_ic, zi_nul, zi_dup, zi_pop, zi_dup_x1, zi_dup2, zi_gf, zi_pf, zi_ia, zi_is, zi_la, zi_lst, zi_aa, zi_as, zi_len, zi_new, zi_na, zi_mx, zi_mn, zi_sw, zi_swx, zi_cv, zi_cs, zi_ci, zi_obj, zi_iret, zi_lret, zi_zret, zi_aret, zi_vret, zm_s1, zm_s2, zm_k, zm_tk, zm_Rt, zm_is, List.getElem?_cons_zero, List.getElem?_cons_succ, List.set_cons_zero, List.set_cons_succ, List.length_cons, List.length_nil, List.map_cons, List.map_nil, List.sum_cons, List.sum_nil, List.nil_append, List.cons_append, Option.toList, Value.category, reduceIte, Nat.reduceAdd, Nat.reduceLeDiff, Nat.reduceLT, Nat.reduceEqDiff, Nat.reduceMul, and_true, true_and, and_self, Nat.zero_add, Nat.add_zero, Nat.le_refl, true_or, or_true, not_true_eq_false, not_false_eq_true, zm_ft_int, zm_ft_long, zm_ft_ref, zm_ft_null, zm_ft_b0, zm_ft_b1, i_2, i_3, i_4, i_10, io_16, io_64, io_33, io_2, cF_ev, cF_bm, va_rf, cH_0, cH_1, cH_2, cH_3, cH_4, cH_5, uT4, uT5, uT6, uT7, uB1, uB2, uB3, uG, uV, mH_0, mH_1, mH_2, mH_3, mH_4, mH_5, mH_6, mH_7, mH_8, mH_9, mH_10, mH_11, mH_12, mH_13, mH_14, mH_15, mH_16, mH_17, mH_18, mH_19, mH_20, mH_21, vI0, vI1, vI2, vI3, vI5, vI17, vI18, vI19, vA4, vA6, vA7, vA8, vA9, vA10, vA11, vA12, vA13, vA14, vA15, vA16, vA20, vA21, vA22, vA23, vA24, vA25, vA26, vA27, vD]
        rw [hy]
      · simp only [zi_push, zi_ldi, zi_ldl, zi_lda, zi_sti, zi_stl, zi_sta, zi_inc, zi_b, zi_d, zi_u, zi_bl, zi_dl, zi_ul, zi_lcmp, zi_i2l, zi_l2i, zi_if, zi_ic, zi_nul, zi_dup, zi_pop, zi_dup_x1, zi_dup2, zi_gf, zi_pf, zi_ia, zi_is, zi_la, zi_lst, zi_aa, zi_as, zi_len, zi_new, zi_na, zi_mx, zi_mn, zi_sw, zi_swx, zi_cv, zi_cs, zi_ci, zi_obj, zi_iret, zi_lret, zi_zret, zi_aret, zi_vret, zm_s1, zm_s2, zm_k, zm_tk, zm_Rt, zm_is, List.getElem?_cons_zero, List.getElem?_cons_succ, List.set_cons_zero, List.set_cons_succ, List.length_cons, List.length_nil, List.map_cons, List.map_nil, List.sum_cons, List.sum_nil, List.nil_append, List.cons_append, Option.toList, Value.category, reduceIte, Nat.reduceAdd, Nat.reduceLeDiff, Nat.reduceLT, Nat.reduceEqDiff, Nat.reduceMul, and_true, true_and, and_self, Nat.zero_add, Nat.add_zero, Nat.le_refl, true_or, or_true, not_true_eq_false, not_false_eq_true, zm_ft_int, zm_ft_long, zm_ft_ref, zm_ft_null, zm_ft_b0, zm_ft_b1, i_2, i_3, i_4, i_10, io_16, io_64, io_33, io_2, cF_ev, cF_bm, va_rf, cH_0, cH_1, cH_2, cH_3, cH_4, cH_5, uT4, uT5, uT6, uT7, uB1, uB2, uB3, uG, uV, mH_0, mH_1, mH_2, mH_3, mH_4, mH_5, mH_6, mH_7, mH_8, mH_9, mH_10, mH_11, mH_12, mH_13, mH_14, mH_15, mH_16, mH_17, mH_18, mH_19, mH_20, mH_21, vI0, vI1, vI2, vI3, vI5, vI17, vI18, vI19, vA4, vA6, vA7, vA8, vA9, vA10, vA11, vA12, vA13, vA14, vA15, vA16, vA20, vA21, vA22, vA23, vA24, vA25, vA26, vA27, vD]
        rw [hy]
    refine bkX4_over_0 X [some (.ref q), some (.int b), none] [] _ ?_
    simp only [zi_push, zi_ldi, zi_ldl, zi_lda, zi_sti, zi_stl, zi_sta, zi_inc, zi_b, zi_d, zi_u, zi_bl, zi_dl, zi_ul, zi_lcmp, zi_i2l, zi_l2i, zi_if, zi_ic, zi_nul, zi_dup, zi_pop, zi_dup_x1, zi_dup2, zi_gf, zi_pf, zi_ia, zi_is, zi_la, zi_lst, zi_aa, zi_as, zi_len, zi_new, zi_na, zi_mx, zi_mn, zi_sw, zi_swx, zi_cv, zi_cs, zi_ci, zi_obj, zi_iret, zi_lret, zi_zret, zi_aret, zi_vret, zm_s1, zm_s2, zm_k, zm_tk, zm_Rt, zm_is, List.getElem?_cons_zero, List.getElem?_cons_succ, List.set_cons_zero, List.set_cons_succ, List.length_cons, List.length_nil, List.map_cons, List.map_nil, List.sum_cons, List.sum_nil, List.nil_append, List.cons_append, Option.toList, Value.category, reduceIte, Nat.reduceAdd, Nat.reduceLeDiff, Nat.reduceLT, Nat.reduceEqDiff, Nat.reduceMul, and_true, true_and, and_self, Nat.zero_add, Nat.add_zero, Nat.le_refl, true_or, or_true, not_true_eq_false, not_false_eq_true, zm_ft_int, zm_ft_long, zm_ft_ref, zm_ft_null, zm_ft_b0, zm_ft_b1, i_2, i_3, i_4, i_10, io_16, io_64, io_33, io_2, cF_ev, cF_bm, va_rf, cH_0, cH_1, cH_2, cH_3, cH_4, cH_5, uT4, uT5, uT6, uT7, uB1, uB2, uB3, uG, uV, mH_0, mH_1, mH_2, mH_3, mH_4, mH_5, mH_6, mH_7, mH_8, mH_9, mH_10, mH_11, mH_12, mH_13, mH_14, mH_15, mH_16, mH_17, mH_18, mH_19, mH_20, mH_21, vI0, vI1, vI2, vI3, vI5, vI17, vI18, vI19, vA4, vA6, vA7, vA8, vA9, vA10, vA11, vA12, vA13, vA14, vA15, vA16, vA20, vA21, vA22, vA23, vA24, vA25, vA26, vA27, vD, e17]
    refine ⟨fun p => k17 0 (by rw [if_pos p]), fun p => k17 1 (by rw [if_neg p])⟩
  · obtain ⟨r1, r2, r3, r4, r5, r6, r7, r8, r9, r10⟩ := ht
    refine ⟨r1, r2, r3, r4, r5, eR_C (D := c_take C bc) (fun a k _ => rfl) (eR_of (M := tI (tI M 0 0) 18 0) rfl (fun k _ _ => rfl) r6), gR_keep (C := c_take C bc) (M := tI (tI M 0 0) 18 0) rfl rfl rfl rfl rfl r7, ?_, fun b hb => absurd hb (by omega), fun e he => Or.inl (take_E10 h.1 he)⟩
    obtain ⟨v1, v2, v3, v4, v5⟩ := r8
    exact ⟨v1, v2, by
      show b = upd (cT (c_take C bc)) 7 b 7
      rw [upd_at], by
      show upd (cT (c_take C bc)) 7 b 7 = 0 ∨ upd (cT (c_take C bc)) 7 b 7 = 1
      rw [upd_at]
      exact hb, v5⟩
  · refine ⟨?_, bB_0 _⟩
    unfold vB
    rw [cV_sT, c_take_V]
    exact h.2.1
end
