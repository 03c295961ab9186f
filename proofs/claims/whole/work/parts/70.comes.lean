
/-! note and pause -/
theorem tm_in {v a d : Int32} : c_tm v a d = 0 ↔ (c_in v 0 1 = 0 ∨ c_in a 0 6 = 0 ∨ c_in d 0 2 = 0) := by
  unfold c_tm c_in
  by_cases p1 : v < 0
  · simp [p1]
  · by_cases p2 : 1 < v
    · simp [p1, p2]
    · by_cases p3 : a < 0
      · simp [p1, p2, p3]
      · by_cases p4 : 6 < a
        · simp [p1, p2, p3, p4]
        · by_cases p5 : d < 0
          · simp [p1, p2, p3, p4, p5]
          · by_cases p6 : 2 < d
            · simp [p1, p2, p3, p4, p5, p6]
            · simp [p1, p2, p3, p4, p5, p6]
theorem pl_in {p : Int32} : c_pl p = c_in p (-12) 12 := rfl
theorem ticks_all : ∀ (a : Fin 7) (d : Fin 3), 0 ≤ (e_ticks (nI a.val) (nI d.val)).toInt ∧ (e_ticks (nI a.val) (nI d.val)).toInt ≤ 448 := by decide +kernel
theorem inR_nI {x : Int32} {m : Nat} (h : inR x 0 m) : ∃ k, k ≤ m ∧ x = nI k := by
  obtain ⟨z, z1, z2, z3⟩ := h
  refine ⟨z.toNat, by omega, ?_⟩
  rw [z3, nI_zI]
  congr 1
  omega
theorem ticks_in {a d : Int32} (ha : inR a 0 6) (hd : inR d 0 2) : inR (e_ticks a d) 0 448 := by
  obtain ⟨a', h1, rfl⟩ := inR_nI (m := 6) ha
  obtain ⟨d', h2, rfl⟩ := inR_nI (m := 2) hd
  have h := ticks_all ⟨a', by omega⟩ ⟨d', by omega⟩
  refine ⟨(e_ticks (nI a') (nI d')).toInt, h.1, h.2, ?_⟩
  rw [zI_self]
theorem e_ticks_0 (a : Int32) : e_ticks a 0 = (256 : Int32) >>> (a &&& 31) := by
  unfold e_ticks
  rw [if_pos rfl]
theorem e_ticks_1 {a d : Int32} (h : d = 1) : e_ticks a d = (256 : Int32) >>> (a &&& 31) + (256 : Int32) >>> (a &&& 31) / 2 := by
  subst h
  unfold e_ticks
  rw [if_neg (by decide), if_pos rfl]
theorem e_ticks_2 {a d : Int32} (h0 : ¬ d = 0) (h : ¬ d = 1) : e_ticks a d = (256 : Int32) >>> (a &&& 31) + 3 * (256 : Int32) >>> (a &&& 31) / 4 := by
  unfold e_ticks
  rw [if_neg h0, if_neg h]
def r_app (M : mS) (ec k : Nat) (r p a e : Int32) : mS := tI (tI (tA (tA (tA (tA (tA (tA (tA (tA (tA (tA (tA M 6 ec r) 7 ec (nI k)) 8 ec a) 9 ec (mA M 16 k)) 10 ec e) 11 ec 0) 12 ec 0) 13 ec 0) 15 ec (1 - r)) 14 (4 * ec) p) 16 k (mA M 16 k + e)) 5 (nI (ec + 1))) 18 0
section
variable {w : zW} {f : Nat → Option zO} {o q : Nat} {n : Nat × Nat} {C : cS} {M : mS} {ec bc gc : Nat}
theorem ctR_comes1 {r p v a d : Int32} (hr : c_pl p = 0 ∨ c_tm v a d = 0) : zm_C w mX4_comes [.ref q, .int r, .int p, .int v, .int a, .int d] (mH f q M, n) (some (.int (-1003))) (mH f q M, n) := by
  rw [tm_in, pl_in] at hr
  refine zm_C.of (mc := 0) (ms := 0) rfl rfl (by decide) (Nat.le_of_ble_eq_true rfl) ?_
  intro Γ X
  refine bkX4_comes_0 X [some (.ref q), some (.int r), some (.int p), some (.int v), some (.int a), some (.int d), none, none, none] [] _ ?_
  simp only [zi_push, zi_ldi, zi_ldl, zi_lda, zi_sti, zi_stl, zi_sta, zi_inc, zi_b, zi_d, zi_u, zi_bl, zi_dl, zi_ul, zi_lcmp, zi_i2l, zi_l2i, zi_if, zi_ic, zi_nul, zi_dup, zi_pop, zi_dup_x1, zi_dup2, zi_gf, zi_pf, zi_ia, zi_is, zi_la, zi_lst, zi_aa, zi_as, zi_len, zi_new, zi_na, zi_mx, zi_mn, zi_sw, zi_swx, zi_cv, zi_cs, zi_ci, zi_obj, zi_iret, zi_lret, zi_zret, zi_aret, zi_vret, zm_s1, zm_s2, zm_k, zm_tk, zm_Rt, zm_is, List.getElem?_cons_zero, List.getElem?_cons_succ, List.set_cons_zero, List.set_cons_succ, List.length_cons, List.length_nil, List.map_cons, List.map_nil, List.sum_cons, List.sum_nil, List.nil_append, List.cons_append, Option.toList, Value.category, reduceIte, Nat.reduceAdd, Nat.reduceLeDiff, Nat.reduceLT, Nat.reduceEqDiff, Nat.reduceMul, and_true, true_and, and_self, Nat.zero_add, Nat.add_zero, Nat.le_refl, true_or, or_true, not_true_eq_false, not_false_eq_true, zm_ft_int, zm_ft_long, zm_ft_ref, zm_ft_null, zm_ft_b0, zm_ft_b1, i_2, i_3, i_4, i_10, io_16, io_64, io_33, io_2, cF_ev, cF_bm, va_rf, cH_0, cH_1, cH_2, cH_3, cH_4, cH_5, uT4, uT5, uT6, uT7, uB1, uB2, uB3, uG, uV, mH_0, mH_1, mH_2, mH_3, mH_4, mH_5, mH_6, mH_7, mH_8, mH_9, mH_10, mH_11, mH_12, mH_13, mH_14, mH_15, mH_16, mH_17, mH_18, mH_19, mH_20, mH_21, vI0, vI1, vI2, vI3, vI5, vI17, vI18, vI19, vA4, vA6, vA7, vA8, vA9, vA10, vA11, vA12, vA13, vA14, vA15, vA16, vA20, vA21, vA22, vA23, vA24, vA25, vA26, vA27, vD]
  refine zm_call.of (ctR_in32 v (a := 0) (b := 1) (by decide) (by decide)) (Nat.le_refl _) (Nat.le_refl _) ?_
  simp only [zi_push, zi_ldi, zi_ldl, zi_lda, zi_sti, zi_stl, zi_sta, zi_inc, zi_b, zi_d, zi_u, zi_bl, zi_dl, zi_ul, zi_lcmp, zi_i2l, zi_l2i, zi_if, zi_ic, zi_nul, zi_dup, zi_pop, zi_dup_x1, zi_dup2, zi_gf, zi_pf, zi_ia, zi_is, zi_la, zi_lst, zi_aa, zi_as, zi_len, zi_new, zi_na, zi_mx, zi_mn, zi_sw, zi_swx, zi_cv, zi_cs, zi_ci, zi_obj, zi_iret, zi_lret, zi_zret, zi_aret, zi_vret, zm_s1, zm_s2, zm_k, zm_tk, zm_Rt, zm_is, List.getElem?_cons_zero, List.getElem?_cons_succ, List.set_cons_zero, List.set_cons_succ, List.length_cons, List.length_nil, List.map_cons, List.map_nil, List.sum_cons, List.sum_nil, List.nil_append, List.cons_append, Option.toList, Value.category, reduceIte, Nat.reduceAdd, Nat.reduceLeDiff, Nat.reduceLT, Nat.reduceEqDiff, Nat.reduceMul, and_true, true_and, and_self, Nat.zero_add, Nat.add_zero, Nat.le_refl, true_or, or_true, not_true_eq_false, not_false_eq_true, zm_ft_int, zm_ft_long, zm_ft_ref, zm_ft_null, zm_ft_b0, zm_ft_b1, i_2, i_3, i_4, i_10, io_16, io_64, io_33, io_2, cF_ev, cF_bm, va_rf, cH_0, cH_1, cH_2, cH_3, cH_4, cH_5, uT4, uT5, uT6, uT7, uB1, uB2, uB3, uG, uV, mH_0, mH_1, mH_2, mH_3, mH_4, mH_5, mH_6, mH_7, mH_8, mH_9, mH_10, mH_11, mH_12, mH_13, mH_14, mH_15, mH_16, mH_17, mH_18, mH_19, mH_20, mH_21, vI0, vI1, vI2, vI3, vI5, vI17, vI18, vI19, vA4, vA6, vA7, vA8, vA9, vA10, vA11, vA12, vA13, vA14, vA15, vA16, vA20, vA21, vA22, vA23, vA24, vA25, vA26, vA27, vD]
  refine ⟨fun _ => trivial, fun k1 => ?_⟩
  refine zm_call.of (ctR_in32 a (a := 0) (b := 6) (by decide) (by decide)) (Nat.le_refl _) (Nat.le_refl _) ?_
  simp only [zi_push, zi_ldi, zi_ldl, zi_lda, zi_sti, zi_stl, zi_sta, zi_inc, zi_b, zi_d, zi_u, zi_bl, zi_dl, zi_ul, zi_lcmp, zi_i2l, zi_l2i, zi_if, zi_ic, zi_nul, zi_dup, zi_pop, zi_dup_x1, zi_dup2, zi_gf, zi_pf, zi_ia, zi_is, zi_la, zi_lst, zi_aa, zi_as, zi_len, zi_new, zi_na, zi_mx, zi_mn, zi_sw, zi_swx, zi_cv, zi_cs, zi_ci, zi_obj, zi_iret, zi_lret, zi_zret, zi_aret, zi_vret, zm_s1, zm_s2, zm_k, zm_tk, zm_Rt, zm_is, List.getElem?_cons_zero, List.getElem?_cons_succ, List.set_cons_zero, List.set_cons_succ, List.length_cons, List.length_nil, List.map_cons, List.map_nil, List.sum_cons, List.sum_nil, List.nil_append, List.cons_append, Option.toList, Value.category, reduceIte, Nat.reduceAdd, Nat.reduceLeDiff, Nat.reduceLT, Nat.reduceEqDiff, Nat.reduceMul, and_true, true_and, and_self, Nat.zero_add, Nat.add_zero, Nat.le_refl, true_or, or_true, not_true_eq_false, not_false_eq_true, zm_ft_int, zm_ft_long, zm_ft_ref, zm_ft_null, zm_ft_b0, zm_ft_b1, i_2, i_3, i_4, i_10, io_16, io_64, io_33, io_2, cF_ev, cF_bm, va_rf, cH_0, cH_1, cH_2, cH_3, cH_4, cH_5, uT4, uT5, uT6, uT7, uB1, uB2, uB3, uG, uV, mH_0, mH_1, mH_2, mH_3, mH_4, mH_5, mH_6, mH_7, mH_8, mH_9, mH_10, mH_11, mH_12, mH_13, mH_14, mH_15, mH_16, mH_17, mH_18, mH_19, mH_20, mH_21, vI0, vI1, vI2, vI3, vI5, vI17, vI18, vI19, vA4, vA6, vA7, vA8, vA9, vA10, vA11, vA12, vA13, vA14, vA15, vA16, vA20, vA21, vA22, vA23, vA24, vA25, vA26, vA27, vD]
  refine ⟨fun _ => trivial, fun k2 => ?_⟩
  refine zm_call.of (ctR_in32 d (a := 0) (b := 2) (by decide) (by decide)) (Nat.le_refl _) (Nat.le_refl _) ?_
  simp only [zi_push, zi_ldi, zi_ldl, zi_lda, zi_sti, zi_stl, zi_sta, zi_inc, zi_b, zi_d, zi_u, zi_bl, zi_dl, zi_ul, zi_lcmp, zi_i2l, zi_l2i, zi_if, zi_ic, zi_nul, zi_dup, zi_pop, zi_dup_x1, zi_dup2, zi_gf, zi_pf, zi_ia, zi_is, zi_la, zi_lst, zi_aa, zi_as, zi_len, zi_new, zi_na, zi_mx, zi_mn, zi_sw, zi_swx, zi_cv, zi_cs, zi_ci, zi_obj, zi_iret, zi_lret, zi_zret, zi_aret, zi_vret, zm_s1, zm_s2, zm_k, zm_tk, zm_Rt, zm_is, List.getElem?_cons_zero, List.getElem?_cons_succ, List.set_cons_zero, List.set_cons_succ, List.length_cons, List.length_nil, List.map_cons, List.map_nil, List.sum_cons, List.sum_nil, List.nil_append, List.cons_append, Option.toList, Value.category, reduceIte, Nat.reduceAdd, Nat.reduceLeDiff, Nat.reduceLT, Nat.reduceEqDiff, Nat.reduceMul, and_true, true_and, and_self, Nat.zero_add, Nat.add_zero, Nat.le_refl, true_or, or_true, not_true_eq_false, not_false_eq_true, zm_ft_int, zm_ft_long, zm_ft_ref, zm_ft_null, zm_ft_b0, zm_ft_b1, i_2, i_3, i_4, i_10, io_16, io_64, io_33, io_2, cF_ev, cF_bm, va_rf, cH_0, cH_1, cH_2, cH_3, cH_4, cH_5, uT4, uT5, uT6, uT7, uB1, uB2, uB3, uG, uV, mH_0, mH_1, mH_2, mH_3, mH_4, mH_5, mH_6, mH_7, mH_8, mH_9, mH_10, mH_11, mH_12, mH_13, mH_14, mH_15, mH_16, mH_17, mH_18, mH_19, mH_20, mH_21, vI0, vI1, vI2, vI3, vI5, vI17, vI18, vI19, vA4, vA6, vA7, vA8, vA9, vA10, vA11, vA12, vA13, vA14, vA15, vA16, vA20, vA21, vA22, vA23, vA24, vA25, vA26, vA27, vD]
  refine ⟨fun _ => trivial, fun k3 => ?_⟩
  refine zm_call.of (ctR_in32 p (a := -12) (b := 12) (by decide) (by decide)) (Nat.le_refl _) (Nat.le_refl _) ?_
  simp only [zi_push, zi_ldi, zi_ldl, zi_lda, zi_sti, zi_stl, zi_sta, zi_inc, zi_b, zi_d, zi_u, zi_bl, zi_dl, zi_ul, zi_lcmp, zi_i2l, zi_l2i, zi_if, zi_ic, zi_nul, zi_dup, zi_pop, zi_dup_x1, zi_dup2, zi_gf, zi_pf, zi_ia, zi_is, zi_la, zi_lst, zi_aa, zi_as, zi_len, zi_new, zi_na, zi_mx, zi_mn, zi_sw, zi_swx, zi_cv, zi_cs, zi_ci, zi_obj, zi_iret, zi_lret, zi_zret, zi_aret, zi_vret, zm_s1, zm_s2, zm_k, zm_tk, zm_Rt, zm_is, List.getElem?_cons_zero, List.getElem?_cons_succ, List.set_cons_zero, List.set_cons_succ, List.length_cons, List.length_nil, List.map_cons, List.map_nil, List.sum_cons, List.sum_nil, List.nil_append, List.cons_append, Option.toList, Value.category, reduceIte, Nat.reduceAdd, Nat.reduceLeDiff, Nat.reduceLT, Nat.reduceEqDiff, Nat.reduceMul, and_true, true_and, and_self, Nat.zero_add, Nat.add_zero, Nat.le_refl, true_or, or_true, not_true_eq_false, not_false_eq_true, zm_ft_int, zm_ft_long, zm_ft_ref, zm_ft_null, zm_ft_b0, zm_ft_b1, i_2, i_3, i_4, i_10, io_16, io_64, io_33, io_2, cF_ev, cF_bm, va_rf, cH_0, cH_1, cH_2, cH_3, cH_4, cH_5, uT4, uT5, uT6, uT7, uB1, uB2, uB3, uG, uV, mH_0, mH_1, mH_2, mH_3, mH_4, mH_5, mH_6, mH_7, mH_8, mH_9, mH_10, mH_11, mH_12, mH_13, mH_14, mH_15, mH_16, mH_17, mH_18, mH_19, mH_20, mH_21, vI0, vI1, vI2, vI3, vI5, vI17, vI18, vI19, vA4, vA6, vA7, vA8, vA9, vA10, vA11, vA12, vA13, vA14, vA15, vA16, vA20, vA21, vA22, vA23, vA24, vA25, vA26, vA27, vD]
  refine ⟨fun _ => trivial, fun k4 => ?_⟩
  rcases hr with z | z | z | z
  · exact absurd z k4
  · exact absurd z k1
  · exact absurd z k2
  · exact absurd z k3
set_option maxRecDepth 8192 in
theorem ctR_comes (h : rR C M ec bc gc) {k : Nat} (hk : k < 2) {r p a d : Int32} (h1 : ¬ c_pl p = 0) (h2 : ¬ c_tm (nI k) a d = 0) (x : Int32) (M' : mS) (hx : (¬ b_off (cB C) (cV C k) + e_ticks a d ≤ cB C 2 ∧ x = -1004 ∧ M' = M) ∨ (b_off (cB C) (cV C k) + e_ticks a d ≤ cB C 2 ∧ ec = 64 ∧ x = -1005 ∧ M' = M) ∨ (b_off (cB C) (cV C k) + e_ticks a d ≤ cB C 2 ∧ ec < 64 ∧ x = nI ec ∧ M' = r_app M ec k r p a (e_ticks a d))) : zm_C w mX4_comes [.ref q, .int r, .int p, .int (nI k), .int a, .int d] (mH f q M, n) (some (.int x)) (mH f q M', n) := by
  rw [tm_in] at h2
  rw [pl_in] at h1
  obtain ⟨r1, r2, r3, r4, r5, ⟨he1, he2, he3⟩, ⟨g1, g2, g3, g4, g5, g6, g7, g8⟩, ⟨v1, v2, v3⟩, r9, r10⟩ := h
  have hb : ¬ cB C 2 = 0 := fun h => g6 (by rw [h]; decide)
  have h16 : mA M 16 k = cV C k := by
    rcases (show k = 0 ∨ k = 1 by omega) with rfl | rfl
    · exact v1
    · exact v2
  have hoff : b_off (cB C) (cV C k) = cV C k - cV C k / cB C 2 * cB C 2 := by
    unfold b_off
    rw [if_neg g6]
  have hck : (nI k).toNatClampNeg = k := nI_clamp (by omega)
  have hce : (nI ec).toNatClampNeg = ec := nI_clamp (by omega)
  have e64 : nI ec = 64 ↔ ec = 64 := nI_eq (b := 64) (by omega) (by decide)
  rw [hoff] at hx
  refine zm_C.of (mc := 0) (ms := 0) rfl rfl (by decide) (Nat.le_of_ble_eq_true rfl) ?_
  intro Γ X
  have key : ∀ t : Int32, zm_V w Γ 97 [some (.ref q), some (.int r), some (.int p), some (.int (nI k)), some (.int a), some (.int d), some (.int t), none, none] [.int (e_ticks a d)] (mH f q M, n) := by
    intro t
    rcases hx with ⟨x1, rfl, rfl⟩ | ⟨x1, x2, rfl, rfl⟩ | ⟨x1, x2, rfl, rfl⟩
    · refine bkX4_comes_97 X _ _ _ ?_
      simp only [zi_push, zi_ldi, zi_ldl, zi_lda, zi_sti, zi_stl, zi_sta, zi_inc, zi_b, zi_d, zi_u, zi_bl, zi_dl, zi_ul, zi_lcmp, zi_i2l, zi_l2i, zi_if, zi_ic, zi_nul, zi_dup, zi_pop, zi_dup_x1, zi_dup2, zi_gf, zi_pf, zi_ia, zi_is, zi_la, zi_lst, zi_aa, zi_as, zi_len, zi_new, zi_na, zi_mx, zi_mn, zi_sw, zi_swx, zi_cv, zi_cs, zi_ci, zi_obj, zi_iret, zi_lret, zi_zret, zi_aret, zi_vret, zm_s1, zm_s2, zm_k, zm_tk, zm_Rt, zm_is, List.getElem?_cons_zero, List.getElem?_cons_succ, List.set_cons_zero, List.set_cons_succ, List.length_cons, List.length_nil, List.map_cons, List.map_nil, List.sum_cons, List.sum_nil, List.nil_append, List.cons_append, Option.toList, Value.category, reduceIte, Nat.reduceAdd, Nat.reduceLeDiff, Nat.reduceLT, Nat.reduceEqDiff, Nat.reduceMul, and_true, true_and, and_self, Nat.zero_add, Nat.add_zero, Nat.le_refl, true_or, or_true, not_true_eq_false, not_false_eq_true, zm_ft_int, zm_ft_long, zm_ft_ref, zm_ft_null, zm_ft_b0, zm_ft_b1, i_2, i_3, i_4, i_10, io_16, io_64, io_33, io_2, cF_ev, cF_bm, va_rf, cH_0, cH_1, cH_2, cH_3, cH_4, cH_5, uT4, uT5, uT6, uT7, uB1, uB2, uB3, uG, uV, mH_0, mH_1, mH_2, mH_3, mH_4, mH_5, mH_6, mH_7, mH_8, mH_9, mH_10, mH_11, mH_12, mH_13, mH_14, mH_15, mH_16, mH_17, mH_18, mH_19, mH_20, mH_21, vI0, vI1, vI2, vI3, vI5, vI17, vI18, vI19, vA4, vA6, vA7, vA8, vA9, vA10, vA11, vA12, vA13, vA14, vA15, vA16, vA20, vA21, vA22, vA23, vA24, vA25, vA26, vA27, vD, hck, h16, g5]
      exact ⟨vp_in_nI (by omega) (by decide), hb, fun z => absurd z x1, fun _ => trivial⟩
    · refine bkX4_comes_97 X _ _ _ ?_
      simp only [zi_push, zi_ldi, zi_ldl, zi_lda, zi_sti, zi_stl, zi_sta, zi_inc, zi_b, zi_d, zi_u, zi_bl, zi_dl, zi_ul, zi_lcmp, zi_i2l, zi_l2i, zi_if, zi_ic, zi_nul, zi_dup, zi_pop, zi_dup_x1, zi_dup2, zi_gf, zi_pf, zi_ia, zi_is, zi_la, zi_lst, zi_aa, zi_as, zi_len, zi_new, zi_na, zi_mx, zi_mn, zi_sw, zi_swx, zi_cv, zi_cs, zi_ci, zi_obj, zi_iret, zi_lret, zi_zret, zi_aret, zi_vret, zm_s1, zm_s2, zm_k, zm_tk, zm_Rt, zm_is, List.getElem?_cons_zero, List.getElem?_cons_succ, List.set_cons_zero, List.set_cons_succ, List.length_cons, List.length_nil, List.map_cons, List.map_nil, List.sum_cons, List.sum_nil, List.nil_append, List.cons_append, Option.toList, Value.category, reduceIte, Nat.reduceAdd, Nat.reduceLeDiff, Nat.reduceLT, Nat.reduceEqDiff, Nat.reduceMul, and_true, true_and, and_self, Nat.zero_add, Nat.add_zero, Nat.le_refl, true_or, or_true, not_true_eq_false, not_false_eq_true, zm_ft_int, zm_ft_long, zm_ft_ref, zm_ft_null, zm_ft_b0, zm_ft_b1, i_2, i_3, i_4, i_10, io_16, io_64, io_33, io_2, cF_ev, cF_bm, va_rf, cH_0, cH_1, cH_2, cH_3, cH_4, cH_5, uT4, uT5, uT6, uT7, uB1, uB2, uB3, uG, uV, mH_0, mH_1, mH_2, mH_3, mH_4, mH_5, mH_6, mH_7, mH_8, mH_9, mH_10, mH_11, mH_12, mH_13, mH_14, mH_15, mH_16, mH_17, mH_18, mH_19, mH_20, mH_21, vI0, vI1, vI2, vI3, vI5, vI17, vI18, vI19, vA4, vA6, vA7, vA8, vA9, vA10, vA11, vA12, vA13, vA14, vA15, vA16, vA20, vA21, vA22, vA23, vA24, vA25, vA26, vA27, vD, hck, h16, g5, he2, e64]
      exact ⟨vp_in_nI (by omega) (by decide), hb, fun _ => ⟨fun _ => trivial, fun z => absurd x2 z⟩, fun z => absurd x1 z⟩
    · have y : ∀ (Y : mS) (i k' : Nat) (x' : Int32), k' ≠ 16 → mA (tA Y k' i x') 16 k = mA Y 16 k := fun Y i k' x' hk' => by rw [tA_ne _ _ _ (Ne.symm hk')]
      have y6 : ∀ (Y : mS) (i : Nat) (x' : Int32), mA (tA Y 6 i x') 16 k = mA Y 16 k := fun Y i x' => y Y i 6 x' (by decide)
      have y7 : ∀ (Y : mS) (i : Nat) (x' : Int32), mA (tA Y 7 i x') 16 k = mA Y 16 k := fun Y i x' => y Y i 7 x' (by decide)
      have y8 : ∀ (Y : mS) (i : Nat) (x' : Int32), mA (tA Y 8 i x') 16 k = mA Y 16 k := fun Y i x' => y Y i 8 x' (by decide)
      have y9 : ∀ (Y : mS) (i : Nat) (x' : Int32), mA (tA Y 9 i x') 16 k = mA Y 16 k := fun Y i x' => y Y i 9 x' (by decide)
      have y10 : ∀ (Y : mS) (i : Nat) (x' : Int32), mA (tA Y 10 i x') 16 k = mA Y 16 k := fun Y i x' => y Y i 10 x' (by decide)
      have y11 : ∀ (Y : mS) (i : Nat) (x' : Int32), mA (tA Y 11 i x') 16 k = mA Y 16 k := fun Y i x' => y Y i 11 x' (by decide)
      have y12 : ∀ (Y : mS) (i : Nat) (x' : Int32), mA (tA Y 12 i x') 16 k = mA Y 16 k := fun Y i x' => y Y i 12 x' (by decide)
      have y13 : ∀ (Y : mS) (i : Nat) (x' : Int32), mA (tA Y 13 i x') 16 k = mA Y 16 k := fun Y i x' => y Y i 13 x' (by decide)
      have y15 : ∀ (Y : mS) (i : Nat) (x' : Int32), mA (tA Y 15 i x') 16 k = mA Y 16 k := fun Y i x' => y Y i 15 x' (by decide)
      have y14 : ∀ (Y : mS) (i : Nat) (x' : Int32), mA (tA Y 14 i x') 16 k = mA Y 16 k := fun Y i x' => y Y i 14 x' (by decide)
      have y5 : ∀ (Y : mS) (k' i : Nat) (x' : Int32), mI (tA Y k' i x') 5 = mI Y 5 := fun Y k' i x' => rfl
      refine bkX4_comes_97 X _ _ _ ?_
      simp only [zi_push, zi_ldi, zi_ldl, zi_lda, zi_sti, zi_stl, zi_sta, zi_inc, zi_b, zi_d, zi_u, zi_bl, zi_dl, zi_ul, zi_lcmp, zi_i2l, zi_l2i, zi_if, zi_ic, zi_nul, zi_dup, zi_pop, zi_dup_x1, zi_dup2, zi_gf, zi_pf, zi_ia, zi_is, zi_la, zi_lst, zi_aa, zi_as, zi_len, zi_new, zi_na, zi_mx, zi_mn, zi_sw, zi_swx, zi_cv, zi_cs, zi_ci, zi_obj, zi_iret, zi_lret, zi_zret, zi_aret, zi_vret, zm_s1, zm_s2, zm_k, zm_tk, zm_Rt, zm_is, List.getElem?_cons_zero, List.getElem?_cons_succ, List.set_cons_zero, List.set_cons_succ, List.length_cons, List.length_nil, List.map_cons, List.map_nil, List.sum_cons, List.sum_nil, List.nil_append, List.cons_append, Option.toList, Value.category, reduceIte, Nat.reduceAdd, Nat.reduceLeDiff, Nat.reduceLT, Nat.reduceEqDiff, Nat.reduceMul, and_true, true_and, and_self, Nat.zero_add, Nat.add_zero, Nat.le_refl, true_or, or_true, not_true_eq_false, not_false_eq_true, zm_ft_int, zm_ft_long, zm_ft_ref, zm_ft_null, zm_ft_b0, zm_ft_b1, i_2, i_3, i_4, i_10, io_16, io_64, io_33, io_2, cF_ev, cF_bm, va_rf, cH_0, cH_1, cH_2, cH_3, cH_4, cH_5, uT4, uT5, uT6, uT7, uB1, uB2, uB3, uG, uV, mH_0, mH_1, mH_2, mH_3, mH_4, mH_5, mH_6, mH_7, mH_8, mH_9, mH_10, mH_11, mH_12, mH_13, mH_14, mH_15, mH_16, mH_17, mH_18, mH_19, mH_20, mH_21, vI0, vI1, vI2, vI3, vI5, vI17, vI18, vI19, vA4, vA6, vA7, vA8, vA9, vA10, vA11, vA12, vA13, vA14, vA15, vA16, vA20, vA21, vA22, vA23, vA24, vA25, vA26, vA27, vD, hck, hce, y6, y7, y8, y9, y10, y11, y12, y13, y14, y15, y5, g5, he2, e64, n4, nI_clamp (show 4 * ec < 2 ^ 31 by omega), nI_1]
      refine ⟨vp_in_nI (by omega) (by decide), hb, fun _ => ⟨fun z => absurd z (by omega), fun _ => ?_⟩, fun z => absurd x1 (by rw [← h16]; exact z)⟩
      refine ⟨vp_in_nI (by omega) (by decide), vp_in_nI (by omega) (by decide), vp_in_nI (by omega) (by decide), vp_in_nI (by omega) (by decide), vp_in_nI (by omega) (by decide), vp_in_nI (by omega) (by decide), vp_in_nI (by omega) (by decide), vp_in_nI (by omega) (by decide), vp_in_nI (by omega) (by decide), vp_in_nI (by omega) (by decide), vp_in_nI (by omega) (by decide), ?_⟩
      exact ⟨vp_in_nI (by omega) (by decide), vp_in_nI (by omega) (by decide), rfl⟩
  refine bkX4_comes_0 X [some (.ref q), some (.int r), some (.int p), some (.int (nI k)), some (.int a), some (.int d), none, none, none] [] _ ?_
  simp only [zi_push, zi_ldi, zi_ldl, zi_lda, zi_sti, zi_stl, zi_sta, zi_inc, zi_b, zi_d, zi_u, zi_bl, zi_dl, zi_ul, zi_lcmp, zi_i2l, zi_l2i, zi_if, zi_ic, zi_nul, zi_dup, zi_pop, zi_dup_x1, zi_dup2, zi_gf, zi_pf, zi_ia, zi_is, zi_la, zi_lst, zi_aa, zi_as, zi_len, zi_new, zi_na, zi_mx, zi_mn, zi_sw, zi_swx, zi_cv, zi_cs, zi_ci, zi_obj, zi_iret, zi_lret, zi_zret, zi_aret, zi_vret, zm_s1, zm_s2, zm_k, zm_tk, zm_Rt, zm_is, List.getElem?_cons_zero, List.getElem?_cons_succ, List.set_cons_zero, List.set_cons_succ, List.length_cons, List.length_nil, List.map_cons, List.map_nil, List.sum_cons, List.sum_nil, List.nil_append, List.cons_append, Option.toList, Value.category, reduceIte, Nat.reduceAdd, Nat.reduceLeDiff, Nat.reduceLT, Nat.reduceEqDiff, Nat.reduceMul, and_true, true_and, and_self, Nat.zero_add, Nat.add_zero, Nat.le_refl, true_or, or_true, not_true_eq_false, not_false_eq_true, zm_ft_int, zm_ft_long, zm_ft_ref, zm_ft_null, zm_ft_b0, zm_ft_b1, i_2, i_3, i_4, i_10, io_16, io_64, io_33, io_2, cF_ev, cF_bm, va_rf, cH_0, cH_1, cH_2, cH_3, cH_4, cH_5, uT4, uT5, uT6, uT7, uB1, uB2, uB3, uG, uV, mH_0, mH_1, mH_2, mH_3, mH_4, mH_5, mH_6, mH_7, mH_8, mH_9, mH_10, mH_11, mH_12, mH_13, mH_14, mH_15, mH_16, mH_17, mH_18, mH_19, mH_20, mH_21, vI0, vI1, vI2, vI3, vI5, vI17, vI18, vI19, vA4, vA6, vA7, vA8, vA9, vA10, vA11, vA12, vA13, vA14, vA15, vA16, vA20, vA21, vA22, vA23, vA24, vA25, vA26, vA27, vD]
  refine zm_call.of (ctR_in32 (nI k) (a := 0) (b := 1) (by decide) (by decide)) (Nat.le_refl _) (Nat.le_refl _) ?_
  simp only [zi_push, zi_ldi, zi_ldl, zi_lda, zi_sti, zi_stl, zi_sta, zi_inc, zi_b, zi_d, zi_u, zi_bl, zi_dl, zi_ul, zi_lcmp, zi_i2l, zi_l2i, zi_if, zi_ic, zi_nul, zi_dup, zi_pop, zi_dup_x1, zi_dup2, zi_gf, zi_pf, zi_ia, zi_is, zi_la, zi_lst, zi_aa, zi_as, zi_len, zi_new, zi_na, zi_mx, zi_mn, zi_sw, zi_swx, zi_cv, zi_cs, zi_ci, zi_obj, zi_iret, zi_lret, zi_zret, zi_aret, zi_vret, zm_s1, zm_s2, zm_k, zm_tk, zm_Rt, zm_is, List.getElem?_cons_zero, List.getElem?_cons_succ, List.set_cons_zero, List.set_cons_succ, List.length_cons, List.length_nil, List.map_cons, List.map_nil, List.sum_cons, List.sum_nil, List.nil_append, List.cons_append, Option.toList, Value.category, reduceIte, Nat.reduceAdd, Nat.reduceLeDiff, Nat.reduceLT, Nat.reduceEqDiff, Nat.reduceMul, and_true, true_and, and_self, Nat.zero_add, Nat.add_zero, Nat.le_refl, true_or, or_true, not_true_eq_false, not_false_eq_true, zm_ft_int, zm_ft_long, zm_ft_ref, zm_ft_null, zm_ft_b0, zm_ft_b1, i_2, i_3, i_4, i_10, io_16, io_64, io_33, io_2, cF_ev, cF_bm, va_rf, cH_0, cH_1, cH_2, cH_3, cH_4, cH_5, uT4, uT5, uT6, uT7, uB1, uB2, uB3, uG, uV, mH_0, mH_1, mH_2, mH_3, mH_4, mH_5, mH_6, mH_7, mH_8, mH_9, mH_10, mH_11, mH_12, mH_13, mH_14, mH_15, mH_16, mH_17, mH_18, mH_19, mH_20, mH_21, vI0, vI1, vI2, vI3, vI5, vI17, vI18, vI19, vA4, vA6, vA7, vA8, vA9, vA10, vA11, vA12, vA13, vA14, vA15, vA16, vA20, vA21, vA22, vA23, vA24, vA25, vA26, vA27, vD]
  refine ⟨fun z => absurd (Or.inl z) h2, fun _ => ?_⟩
  refine zm_call.of (ctR_in32 a (a := 0) (b := 6) (by decide) (by decide)) (Nat.le_refl _) (Nat.le_refl _) ?_
  simp only [zi_push, zi_ldi, zi_ldl, zi_lda, zi_sti, zi_stl, zi_sta, zi_inc, zi_b, zi_d, zi_u, zi_bl, zi_dl, zi_ul, zi_lcmp, zi_i2l, zi_l2i, zi_if, zi_ic, zi_nul, zi_dup, zi_pop, zi_dup_x1, zi_dup2, zi_gf, zi_pf, zi_ia, zi_is, zi_la, zi_lst, zi_aa, zi_as, zi_len, zi_new, zi_na, zi_mx, zi_mn, zi_sw, zi_swx, zi_cv, zi_cs, zi_ci, zi_obj, zi_iret, zi_lret, zi_zret, zi_aret, zi_vret, zm_s1, zm_s2, zm_k, zm_tk, zm_Rt, zm_is, List.getElem?_cons_zero, List.getElem?_cons_succ, List.set_cons_zero, List.set_cons_succ, List.length_cons, List.length_nil, List.map_cons, List.map_nil, List.sum_cons, List.sum_nil, List.nil_append, List.cons_append, Option.toList, Value.category, reduceIte, Nat.reduceAdd, Nat.reduceLeDiff, Nat.reduceLT, Nat.reduceEqDiff, Nat.reduceMul, and_true, true_and, and_self, Nat.zero_add, Nat.add_zero, Nat.le_refl, true_or, or_true, not_true_eq_false, not_false_eq_true, zm_ft_int, zm_ft_long, zm_ft_ref, zm_ft_null, zm_ft_b0, zm_ft_b1, i_2, i_3, i_4, i_10, io_16, io_64, io_33, io_2, cF_ev, cF_bm, va_rf, cH_0, cH_1, cH_2, cH_3, cH_4, cH_5, uT4, uT5, uT6, uT7, uB1, uB2, uB3, uG, uV, mH_0, mH_1, mH_2, mH_3, mH_4, mH_5, mH_6, mH_7, mH_8, mH_9, mH_10, mH_11, mH_12, mH_13, mH_14, mH_15, mH_16, mH_17, mH_18, mH_19, mH_20, mH_21, vI0, vI1, vI2, vI3, vI5, vI17, vI18, vI19, vA4, vA6, vA7, vA8, vA9, vA10, vA11, vA12, vA13, vA14, vA15, vA16, vA20, vA21, vA22, vA23, vA24, vA25, vA26, vA27, vD]
  refine ⟨fun z => absurd (Or.inr (Or.inl z)) h2, fun _ => ?_⟩
  refine zm_call.of (ctR_in32 d (a := 0) (b := 2) (by decide) (by decide)) (Nat.le_refl _) (Nat.le_refl _) ?_
  simp only [zi_push, zi_ldi, zi_ldl, zi_lda, zi_sti, zi_stl, zi_sta, zi_inc, zi_b, zi_d, zi_u, zi_bl, zi_dl, zi_ul, zi_lcmp, zi_i2l, zi_l2i, zi_if, zi_ic, zi_nul, zi_dup, zi_pop, zi_dup_x1, zi_dup2, zi_gf, zi_pf, zi_ia, zi_is, zi_la, zi_lst, zi_aa, zi_as, zi_len, zi_new, zi_na, zi_mx, zi_mn, zi_sw, zi_swx, zi_cv, zi_cs, zi_ci, zi_obj, zi_iret, zi_lret, zi_zret, zi_aret, zi_vret, zm_s1, zm_s2, zm_k, zm_tk, zm_Rt, zm_is, List.getElem?_cons_zero, List.getElem?_cons_succ, List.set_cons_zero, List.set_cons_succ, List.length_cons, List.length_nil, List.map_cons, List.map_nil, List.sum_cons, List.sum_nil, List.nil_append, List.cons_append, Option.toList, Value.category, reduceIte, Nat.reduceAdd, Nat.reduceLeDiff, Nat.reduceLT, Nat.reduceEqDiff, Nat.reduceMul, and_true, true_and, and_self, Nat.zero_add, Nat.add_zero, Nat.le_refl, true_or, or_true, not_true_eq_false, not_false_eq_true, zm_ft_int, zm_ft_long, zm_ft_ref, zm_ft_null, zm_ft_b0, zm_ft_b1, i_2, i_3, i_4, i_10, io_16, io_64, io_33, io_2, cF_ev, cF_bm, va_rf, cH_0, cH_1, cH_2, cH_3, cH_4, cH_5, uT4, uT5, uT6, uT7, uB1, uB2, uB3, uG, uV, mH_0, mH_1, mH_2, mH_3, mH_4, mH_5, mH_6, mH_7, mH_8, mH_9, mH_10, mH_11, mH_12, mH_13, mH_14, mH_15, mH_16, mH_17, mH_18, mH_19, mH_20, mH_21, vI0, vI1, vI2, vI3, vI5, vI17, vI18, vI19, vA4, vA6, vA7, vA8, vA9, vA10, vA11, vA12, vA13, vA14, vA15, vA16, vA20, vA21, vA22, vA23, vA24, vA25, vA26, vA27, vD]
  refine ⟨fun z => absurd (Or.inr (Or.inr z)) h2, fun _ => ?_⟩
  refine zm_call.of (ctR_in32 p (a := -12) (b := 12) (by decide) (by decide)) (Nat.le_refl _) (Nat.le_refl _) ?_
  simp only [zi_push, zi_ldi, zi_ldl, zi_lda, zi_sti, zi_stl, zi_sta, zi_inc, zi_b, zi_d, zi_u, zi_bl, zi_dl, zi_ul, zi_lcmp, zi_i2l, zi_l2i, zi_if, zi_ic, zi_nul, zi_dup, zi_pop, zi_dup_x1, zi_dup2, zi_gf, zi_pf, zi_ia, zi_is, zi_la, zi_lst, zi_aa, zi_as, zi_len, zi_new, zi_na, zi_mx, zi_mn, zi_sw, zi_swx, zi_cv, zi_cs, zi_ci, zi_obj, zi_iret, zi_lret, zi_zret, zi_aret, zi_vret, zm_s1, zm_s2, zm_k, zm_tk, zm_Rt, zm_is, List.getElem?_cons_zero, List.getElem?_cons_succ, List.set_cons_zero, List.set_cons_succ, List.length_cons, List.length_nil, List.map_cons, List.map_nil, List.sum_cons, List.sum_nil, List.nil_append, List.cons_append, Option.toList, Value.category, reduceIte, Nat.reduceAdd, Nat.reduceLeDiff, Nat.reduceLT, Nat.reduceEqDiff, Nat.reduceMul, and_true, true_and, and_self, Nat.zero_add, Nat.add_zero, Nat.le_refl, true_or, or_true, not_true_eq_false, not_false_eq_true, zm_ft_int, zm_ft_long, zm_ft_ref, zm_ft_null, zm_ft_b0, zm_ft_b1, i_2, i_3, i_4, i_10, io_16, io_64, io_33, io_2, cF_ev, cF_bm, va_rf, cH_0, cH_1, cH_2, cH_3, cH_4, cH_5, uT4, uT5, uT6, uT7, uB1, uB2, uB3, uG, uV, mH_0, mH_1, mH_2, mH_3, mH_4, mH_5, mH_6, mH_7, mH_8, mH_9, mH_10, mH_11, mH_12, mH_13, mH_14, mH_15, mH_16, mH_17, mH_18, mH_19, mH_20, mH_21, vI0, vI1, vI2, vI3, vI5, vI17, vI18, vI19, vA4, vA6, vA7, vA8, vA9, vA10, vA11, vA12, vA13, vA14, vA15, vA16, vA20, vA21, vA22, vA23, vA24, vA25, vA26, vA27, vD]
  refine ⟨fun z => absurd z h1, fun _ => ?_⟩
  refine ⟨fun z => ?_, fun z => ⟨fun y => ?_, fun y => ?_⟩⟩
  · have e := key ((256 : Int32) >>> (a &&& 31))
    rw [z, e_ticks_0] at e
    rw [z]
    exact e
  · have e := key ((256 : Int32) >>> (a &&& 31))
    rw [e_ticks_1 y] at e
    exact e
  · have e := key ((256 : Int32) >>> (a &&& 31))
    rw [e_ticks_2 z y] at e
    exact e

theorem app_ne (C : cS) (bc v : Nat) (a d : Int32) {i : Nat} (hi : i ≠ ec) (y : Nat) : cE (c_app C bc ec v a d) i y = cE (c_take C bc) i y := by
  unfold c_app e_reset
  rw [cE_sT, cE_sV, cE_sE, up2_ne _ _ hi, cE_sE, up2_ne _ _ hi, cE_sE, up2_ne _ _ hi, cE_sE, up2_ne _ _ hi, cE_sE, up2_ne _ _ hi, cE_sE, up2_ne _ _ hi, cE_sE, up2_ne _ _ hi, cE_sE, up2_ne _ _ hi, cE_sE, up2_ne _ _ hi, cE_sE, up2_ne _ _ hi, cE_sE, up2_ne _ _ hi, cE_sE, up2_ne _ _ hi]
theorem app_0 (C : cS) (bc v : Nat) (a d : Int32) : cE (c_app C bc ec v a d) ec 0 = nI ec := by
  unfold c_app e_reset
  rw [cE_sT, cE_sV, cE_sE, up2_k _ _ (by decide), cE_sE, up2_k _ _ (by decide), cE_sE, up2_k _ _ (by decide), cE_sE, up2_k _ _ (by decide), cE_sE, up2_k _ _ (by decide), cE_sE, up2_k _ _ (by decide), cE_sE, up2_k _ _ (by decide), cE_sE, up2_k _ _ (by decide), cE_sE, up2_k _ _ (by decide), cE_sE, up2_k _ _ (by decide), cE_sE, up2_k _ _ (by decide), cE_sE, up2_eq, if_pos rfl]
theorem app_1 (C : cS) (bc v : Nat) (a d : Int32) : cE (c_app C bc ec v a d) ec 1 = nI v := by
  unfold c_app e_reset
  rw [cE_sT, cE_sV, cE_sE, up2_k _ _ (by decide), cE_sE, up2_k _ _ (by decide), cE_sE, up2_k _ _ (by decide), cE_sE, up2_k _ _ (by decide), cE_sE, up2_k _ _ (by decide), cE_sE, up2_k _ _ (by decide), cE_sE, up2_k _ _ (by decide), cE_sE, up2_k _ _ (by decide), cE_sE, up2_k _ _ (by decide), cE_sE, up2_k _ _ (by decide), cE_sE, up2_eq, if_pos rfl]
theorem app_2 (C : cS) (bc v : Nat) (a d : Int32) : cE (c_app C bc ec v a d) ec 2 = a := by
  unfold c_app e_reset
  rw [cE_sT, cE_sV, cE_sE, up2_k _ _ (by decide), cE_sE, up2_k _ _ (by decide), cE_sE, up2_k _ _ (by decide), cE_sE, up2_k _ _ (by decide), cE_sE, up2_k _ _ (by decide), cE_sE, up2_k _ _ (by decide), cE_sE, up2_k _ _ (by decide), cE_sE, up2_k _ _ (by decide), cE_sE, up2_k _ _ (by decide), cE_sE, up2_eq, if_pos rfl]
theorem app_3 (C : cS) (bc v : Nat) (a d : Int32) : cE (c_app C bc ec v a d) ec 3 = cV C v := by
  unfold c_app e_reset
  rw [cE_sT, cE_sV, cE_sE, up2_k _ _ (by decide), cE_sE, up2_eq, if_pos rfl]
theorem app_4 (C : cS) (bc v : Nat) (a d : Int32) : cE (c_app C bc ec v a d) ec 4 = e_ticks a d := by
  unfold c_app e_reset
  rw [cE_sT, cE_sV, cE_sE, up2_eq, if_pos rfl]
theorem app_5 (C : cS) (bc v : Nat) (a d : Int32) : cE (c_app C bc ec v a d) ec 5 = 0 := by
  unfold c_app e_reset
  rw [cE_sT, cE_sV, cE_sE, up2_k _ _ (by decide), cE_sE, up2_k _ _ (by decide), cE_sE, up2_k _ _ (by decide), cE_sE, up2_k _ _ (by decide), cE_sE, up2_k _ _ (by decide), cE_sE, up2_k _ _ (by decide), cE_sE, up2_k _ _ (by decide), cE_sE, up2_k _ _ (by decide), cE_sE, up2_eq, if_pos rfl]
theorem app_8 (C : cS) (bc v : Nat) (a d : Int32) : cE (c_app C bc ec v a d) ec 8 = 0 := by
  unfold c_app e_reset
  rw [cE_sT, cE_sV, cE_sE, up2_k _ _ (by decide), cE_sE, up2_k _ _ (by decide), cE_sE, up2_k _ _ (by decide), cE_sE, up2_k _ _ (by decide), cE_sE, up2_k _ _ (by decide), cE_sE, up2_k _ _ (by decide), cE_sE, up2_eq, if_pos rfl]
theorem app_9 (C : cS) (bc v : Nat) (a d : Int32) : cE (c_app C bc ec v a d) ec 9 = 0 := by
  unfold c_app e_reset
  rw [cE_sT, cE_sV, cE_sE, up2_k _ _ (by decide), cE_sE, up2_k _ _ (by decide), cE_sE, up2_k _ _ (by decide), cE_sE, up2_k _ _ (by decide), cE_sE, up2_k _ _ (by decide), cE_sE, up2_eq, if_pos rfl]
theorem app_10 (C : cS) (bc v : Nat) (a d : Int32) : cE (c_app C bc ec v a d) ec 10 = -1001 := by
  unfold c_app e_reset
  rw [cE_sT, cE_sV, cE_sE, up2_k _ _ (by decide), cE_sE, up2_k _ _ (by decide), cE_sE, up2_k _ _ (by decide), cE_sE, up2_eq, if_pos rfl]
theorem app_16 (C : cS) (bc v : Nat) (a d : Int32) : cE (c_app C bc ec v a d) ec 16 = 0 := by
  unfold c_app e_reset
  rw [cE_sT, cE_sV, cE_sE, up2_k _ _ (by decide), cE_sE, up2_k _ _ (by decide), cE_sE, up2_k _ _ (by decide), cE_sE, up2_k _ _ (by decide), cE_sE, up2_k _ _ (by decide), cE_sE, up2_k _ _ (by decide), cE_sE, up2_k _ _ (by decide), cE_sE, up2_eq, if_pos rfl]
theorem app_17 (C : cS) (bc v : Nat) (a d : Int32) : cE (c_app C bc ec v a d) ec 17 = 0 := by
  unfold c_app e_reset
  rw [cE_sT, cE_sV, cE_sE, up2_k _ _ (by decide), cE_sE, up2_k _ _ (by decide), cE_sE, up2_k _ _ (by decide), cE_sE, up2_k _ _ (by decide), cE_sE, up2_eq, if_pos rfl]

theorem app_V (C : cS) (bc v : Nat) (a d : Int32) : cV (c_app C bc ec v a d) = upd (cV C) v (cV C v + e_ticks a d) := by
  unfold c_app e_reset
  rw [cV_sT, cV_sV, cV_sE, cV_sE, cV_sE, cV_sE, cV_sE, cV_sE, cV_sE, cV_sE, cV_sE, cV_sE, cV_sE, cV_sE, c_take_V]
theorem app_T (C : cS) (bc v : Nat) (a d : Int32) : cT (c_app C bc ec v a d) = upd (cT (c_take C bc)) 4 (nI (ec + 1)) := by
  unfold c_app e_reset
  rw [cT_sT, cT_sV, cT_sE, cT_sE, cT_sE, cT_sE, cT_sE, cT_sE, cT_sE, cT_sE, cT_sE, cT_sE, cT_sE, cT_sE]
theorem app_B (C : cS) (bc v : Nat) (a d : Int32) : cB (c_app C bc ec v a d) = cB (c_take C bc) := by
  unfold c_app e_reset
  rw [cB_sT, cB_sV, cB_sE, cB_sE, cB_sE, cB_sE, cB_sE, cB_sE, cB_sE, cB_sE, cB_sE, cB_sE, cB_sE, cB_sE]
theorem app_G (C : cS) (bc v : Nat) (a d : Int32) : cG (c_app C bc ec v a d) = cG (c_take C bc) := by
  unfold c_app e_reset
  rw [cG_sT, cG_sV, cG_sE, cG_sE, cG_sE, cG_sE, cG_sE, cG_sE, cG_sE, cG_sE, cG_sE, cG_sE, cG_sE, cG_sE]
theorem app_M (C : cS) (bc v : Nat) (a d : Int32) : cM (c_app C bc ec v a d) = cM (c_take C bc) := by
  unfold c_app e_reset
  rw [cM_sT, cM_sV, cM_sE, cM_sE, cM_sE, cM_sE, cM_sE, cM_sE, cM_sE, cM_sE, cM_sE, cM_sE, cM_sE, cM_sE]
theorem app_N (C : cS) (bc v : Nat) (a d : Int32) : cN (c_app C bc ec v a d) = cN (c_take C bc) := by
  unfold c_app e_reset
  rw [cN_sT, cN_sV, cN_sE, cN_sE, cN_sE, cN_sE, cN_sE, cN_sE, cN_sE, cN_sE, cN_sE, cN_sE, cN_sE, cN_sE]
theorem head_T (A : cS) (i : Nat) (p : Int32) : cT (e_head A i p) = cT A := by
  unfold e_head
  rw [cT_sE, cT_sE, cT_sE, cT_sE]
theorem head_B (A : cS) (i : Nat) (p : Int32) : cB (e_head A i p) = cB A := by
  unfold e_head
  rw [cB_sE, cB_sE, cB_sE, cB_sE]
theorem head_G (A : cS) (i : Nat) (p : Int32) : cG (e_head A i p) = cG A := by
  unfold e_head
  rw [cG_sE, cG_sE, cG_sE, cG_sE]
theorem head_M (A : cS) (i : Nat) (p : Int32) : cM (e_head A i p) = cM A := by
  unfold e_head
  rw [cM_sE, cM_sE, cM_sE, cM_sE]
theorem head_N (A : cS) (i : Nat) (p : Int32) : cN (e_head A i p) = cN A := by
  unfold e_head
  rw [cN_sE, cN_sE, cN_sE, cN_sE]
theorem head_V (A : cS) (i : Nat) (p : Int32) : cV (e_head A i p) = cV A := by
  unfold e_head
  rw [cV_sE, cV_sE, cV_sE, cV_sE]
theorem take_T5 (C : cS) (bc : Nat) : cT (c_take C bc) 5 = 0 := by
  unfold c_take
  rw [cT_sT, upd_at]

theorem head_ne (A : cS) (p : Int32) {i : Nat} (hi : i ≠ ec) (y : Nat) : cE (e_head A ec p) i y = cE A i y := by
  unfold e_head
  rw [cE_sE, up2_ne _ _ hi, cE_sE, up2_ne _ _ hi, cE_sE, up2_ne _ _ hi, cE_sE, up2_ne _ _ hi]
theorem head_k (A : cS) (p : Int32) (i : Nat) {y : Nat} (a1 : y ≠ 5) (a2 : y ≠ 6) (a3 : y ≠ 7) (a4 : y ≠ 16) : cE (e_head A ec p) i y = cE A i y := by
  unfold e_head
  rw [cE_sE, up2_k _ _ a1, cE_sE, up2_k _ _ a4, cE_sE, up2_k _ _ a3, cE_sE, up2_k _ _ a2]
theorem head_5 (A : cS) (p : Int32) (h : cE A ec 5 = 0) : cE (e_head A ec p) ec 5 = nI 1 := by
  unfold e_head
  rw [cE_sE, up2_eq, if_pos rfl, h]
  rfl
theorem head_6 (A : cS) (p : Int32) (h : cE A ec 5 = 0) : cE (e_head A ec p) ec 6 = p := by
  unfold e_head
  rw [cE_sE, up2_k _ _ (by decide), cE_sE, up2_k _ _ (by decide), cE_sE, up2_k _ _ (by decide), cE_sE, up2_eq, if_pos rfl, if_pos h]
theorem head_7 (A : cS) (p : Int32) (h : cE A ec 5 = 0) : cE (e_head A ec p) ec 7 = p := by
  unfold e_head
  rw [cE_sE, up2_k _ _ (by decide), cE_sE, up2_k _ _ (by decide), cE_sE, up2_eq, if_pos rfl, if_pos h]
theorem head_16 (A : cS) (p : Int32) : cE (e_head A ec p) ec 16 = cE A ec 16 ||| (1 <<< ((p + 12) &&& 31)) := by
  unfold e_head
  rw [cE_sE, up2_k _ _ (by decide), cE_sE, up2_eq, if_pos rfl]
theorem zero_bit {b : Nat} (h : b < 32) : ¬ ((0 : Int32) >>> nI b &&& 1 = 1) := by
  rw [bit_iff _ h]
  simp
/-- what both calls leave: the events before, the new one, the clocks -/
theorem comes_rel {C' : cS} {r p a e : Int32} {k : Nat} (h : RR C M ec bc gc) (hec : ec < 64) (hk : k < 2) (ha : inR a 0 6) (he : inR e 0 448)
  (hT4 : cT C' 4 = nI (ec + 1)) (hT5 : cT C' 5 = 0) (hT6 : cT C' 6 = cT (c_take C bc) 6) (hT7 : cT C' 7 = cT (c_take C bc) 7) (hB : cB C' = cB (c_take C bc)) (hG : cG C' = cG (c_take C bc)) (hM : cM C' = cM (c_take C bc)) (hN : cN C' = cN (c_take C bc)) (hV : cV C' = upd (cV C) k (cV C k + e)) (hne : ∀ i y, i ≠ ec → cE C' i y = cE (c_take C bc) i y)
  (e0 : cE C' ec 0 = nI ec) (e1 : cE C' ec 1 = nI k) (e2 : cE C' ec 2 = a) (e3 : cE C' ec 3 = cV C k) (e4 : cE C' ec 4 = e) (e8 : cE C' ec 8 = 0) (e9 : cE C' ec 9 = 0) (e17 : cE C' ec 17 = 0) (e10 : cE C' ec 10 = -1001)
  (e5 : cE C' ec 5 = 1 - r) (er : r = if cE C' ec 5 = 0 then 1 else 0) (e67 : cE C' ec 5 ≠ 0 → inR (cE C' ec 6) (-12) 12 ∧ inR (cE C' ec 7) (-12) 12) (eo : eO3 C' (r_app (tI M 0 0) ec k r p a e) ec) : RR C' (r_app (tI M 0 0) ec k r p a e) (ec + 1) 0 gc := by
  have ht := take_rel (M' := tI (tI M 0 0) 18 0) h.1 rfl rfl rfl rfl rfl rfl rfl
  obtain ⟨r1, r2, r3, r4, r5, ⟨he1, he2, he3⟩, rg, ⟨v1, v2, v3⟩, r9, r10⟩ := ht
  rw [c_take_V] at v1 v2
  have h16 : mA (tI M 0 0) 16 k = cV C k := by
    rcases (show k = 0 ∨ k = 1 by omega) with rfl | rfl
    · exact v1
    · exact v2
  have A16 : mA (r_app (tI M 0 0) ec k r p a e) 16 = upd (mA (tI M 0 0) 16) k (mA (tI M 0 0) 16 k + e) := by
    unfold r_app
    rw [mA_tI, mA_tI, tA_at, tA_ne _ _ _ (by decide), tA_ne _ _ _ (by decide), tA_ne _ _ _ (by decide), tA_ne _ _ _ (by decide), tA_ne _ _ _ (by decide), tA_ne _ _ _ (by decide), tA_ne _ _ _ (by decide), tA_ne _ _ _ (by decide), tA_ne _ _ _ (by decide), tA_ne _ _ _ (by decide)]
  have A4 : mA (r_app (tI M 0 0) ec k r p a e) 4 = mA (tI M 0 0) 4 := by
    unfold r_app
    rw [mA_tI, mA_tI, tA_ne _ _ _ (by decide), tA_ne _ _ _ (by decide), tA_ne _ _ _ (by decide), tA_ne _ _ _ (by decide), tA_ne _ _ _ (by decide), tA_ne _ _ _ (by decide), tA_ne _ _ _ (by decide), tA_ne _ _ _ (by decide), tA_ne _ _ _ (by decide), tA_ne _ _ _ (by decide), tA_ne _ _ _ (by decide)]
  have Ai : ∀ y i, y ≠ 14 → y ≠ 16 → i ≠ ec → mA (r_app (tI M 0 0) ec k r p a e) y i = mA (tI (tI M 0 0) 18 0) y i := fun y i h1 h2 hi => by
    unfold r_app
    rw [mA_tI, mA_tI, tA_ne _ _ _ h2, tA_ne _ _ _ h1, tA_i _ _ _ _ hi, tA_i _ _ _ _ hi, tA_i _ _ _ _ hi, tA_i _ _ _ _ hi, tA_i _ _ _ _ hi, tA_i _ _ _ _ hi, tA_i _ _ _ _ hi, tA_i _ _ _ _ hi, tA_i _ _ _ _ hi]
    rfl
  have A14 : mA (r_app (tI M 0 0) ec k r p a e) 14 = upd (mA (tI M 0 0) 14) (4 * ec) p := by
    unfold r_app
    rw [mA_tI, mA_tI, tA_ne _ _ _ (by decide), tA_at, tA_ne _ _ _ (by decide), tA_ne _ _ _ (by decide), tA_ne _ _ _ (by decide), tA_ne _ _ _ (by decide), tA_ne _ _ _ (by decide), tA_ne _ _ _ (by decide), tA_ne _ _ _ (by decide), tA_ne _ _ _ (by decide), tA_ne _ _ _ (by decide)]
  refine ⟨⟨cRows_of hM hN r1, hT4, hT5, rfl, by omega, ⟨by omega, rfl, fun i hi => ?_⟩, gR_keep hB hG rfl rfl A4 rg, ⟨?_, ?_, ?_⟩, fun b hb => absurd hb (by omega), fun i hi => ?_⟩, ⟨?_, ?_⟩, bB_0 _⟩
  · by_cases hie : i = ec
    · subst hie
      refine ⟨⟨?_, ?_, ?_, ?_, ?_, ?_, ?_, ?_, ?_, e0⟩, ⟨?_, ?_, ?_, e67⟩, eo⟩
      · rw [e1]
        unfold r_app
        rw [mA_tI, mA_tI]
        rw [tA_ne _ _ _ (by decide), tA_ne _ _ _ (by decide), tA_ne _ _ _ (by decide), tA_ne _ _ _ (by decide), tA_ne _ _ _ (by decide), tA_ne _ _ _ (by decide), tA_ne _ _ _ (by decide), tA_ne _ _ _ (by decide), tA_ne _ _ _ (by decide), tA_at, upd_at]
      · rw [e2]
        unfold r_app
        rw [mA_tI, mA_tI]
        rw [tA_ne _ _ _ (by decide), tA_ne _ _ _ (by decide), tA_ne _ _ _ (by decide), tA_ne _ _ _ (by decide), tA_ne _ _ _ (by decide), tA_ne _ _ _ (by decide), tA_ne _ _ _ (by decide), tA_ne _ _ _ (by decide), tA_at, upd_at]
      · rw [e3]
        unfold r_app
        rw [mA_tI, mA_tI]
        rw [tA_ne _ _ _ (by decide), tA_ne _ _ _ (by decide), tA_ne _ _ _ (by decide), tA_ne _ _ _ (by decide), tA_ne _ _ _ (by decide), tA_ne _ _ _ (by decide), tA_ne _ _ _ (by decide), tA_at, upd_at]
        exact h16
      · rw [e4]
        unfold r_app
        rw [mA_tI, mA_tI]
        rw [tA_ne _ _ _ (by decide), tA_ne _ _ _ (by decide), tA_ne _ _ _ (by decide), tA_ne _ _ _ (by decide), tA_ne _ _ _ (by decide), tA_ne _ _ _ (by decide), tA_at, upd_at]
      · rw [e8]
        unfold r_app
        rw [mA_tI, mA_tI]
        rw [tA_ne _ _ _ (by decide), tA_ne _ _ _ (by decide), tA_ne _ _ _ (by decide), tA_ne _ _ _ (by decide), tA_ne _ _ _ (by decide), tA_at, upd_at]
      · rw [e9]
        unfold r_app
        rw [mA_tI, mA_tI]
        rw [tA_ne _ _ _ (by decide), tA_ne _ _ _ (by decide), tA_ne _ _ _ (by decide), tA_ne _ _ _ (by decide), tA_at, upd_at]
      · rw [e17]
        unfold r_app
        rw [mA_tI, mA_tI]
        rw [tA_ne _ _ _ (by decide), tA_ne _ _ _ (by decide), tA_ne _ _ _ (by decide), tA_at, upd_at]
      · rw [e5]
        unfold r_app
        rw [mA_tI, mA_tI]
        rw [tA_ne _ _ _ (by decide), tA_ne _ _ _ (by decide), tA_at, upd_at]
      · rw [← er]
        unfold r_app
        rw [mA_tI, mA_tI]
        rw [tA_ne _ _ _ (by decide), tA_ne _ _ _ (by decide), tA_ne _ _ _ (by decide), tA_ne _ _ _ (by decide), tA_ne _ _ _ (by decide), tA_ne _ _ _ (by decide), tA_ne _ _ _ (by decide), tA_ne _ _ _ (by decide), tA_ne _ _ _ (by decide), tA_ne _ _ _ (by decide), tA_at, upd_at]
      · rw [e1]
        exact ⟨k, by omega, by omega, nI_zI k⟩
      · rw [e2]
        exact ha
      · rw [e8]
        exact ⟨0, by omega, by omega, rfl⟩
    · refine eOK_same (fun y _ => hne i y hie) (fun y h1 h2 h3 => Ai y i h3 (by omega) hie) (fun j hj => ?_) (he3 i (by omega))
      unfold r_hd
      rw [A14, upd_ne _ _ (by omega)]
      rfl
  · rw [A16, hV, h16]
    by_cases z : k = 0
    · subst z
      rw [upd_at, upd_at]
    · rw [upd_ne _ _ (Ne.symm z), upd_ne _ _ (Ne.symm z)]
      exact v1
  · rw [A16, hV, h16]
    by_cases z : k = 1
    · subst z
      rw [upd_at, upd_at]
    · rw [upd_ne _ _ (Ne.symm z), upd_ne _ _ (Ne.symm z)]
      exact v2
  · rw [hT7, hT6]
    exact v3
  · by_cases hie : i = ec
    · rw [hie]
      exact Or.inl e10
    · rw [hne i 10 hie]
      rcases r10 i (by omega) with z | ⟨b, j, z, -⟩
      · exact Or.inl z
      · omega
  · obtain ⟨z1, z2⟩ := h.2.1
    rw [hV]
    by_cases z : k = 0
    · subst z
      rw [upd_at]
      exact inR_w (inR_add z1 he) (by omega) (by omega)
    · rw [upd_ne _ _ (Ne.symm z)]
      exact inR_w z1 (by omega) (by omega)
  · obtain ⟨z1, z2⟩ := h.2.1
    rw [hV]
    by_cases z : k = 1
    · subst z
      rw [upd_at]
      exact inR_w (inR_add z2 he) (by omega) (by omega)
    · rw [upd_ne _ _ (Ne.symm z)]
      exact inR_w z2 (by omega) (by omega)
theorem pause_rel (h : RR C M ec bc gc) (hec : ec < 64) {k : Nat} (hk : k < 2) {a d : Int32} (ha : inR a 0 6) (hd : inR d 0 2) : RR (c_app C bc ec k a d) (r_app (tI M 0 0) ec k 1 0 a (e_ticks a d)) (ec + 1) 0 gc := by
  refine comes_rel h hec hk ha (ticks_in ha hd) (by rw [app_T, upd_at]) (by rw [app_T, upd_ne _ _ (by decide), take_T5]) (by rw [app_T, upd_ne _ _ (by decide)]) (by rw [app_T, upd_ne _ _ (by decide)]) (app_B C bc k a d) (app_G C bc k a d) (app_M C bc k a d) (app_N C bc k a d) (app_V C bc k a d) (fun i y hi => app_ne C bc k a d hi y) (app_0 C bc k a d) (app_1 C bc k a d) (app_2 C bc k a d) (app_3 C bc k a d) (app_4 C bc k a d) (app_8 C bc k a d) (app_9 C bc k a d) (app_17 C bc k a d) (app_10 C bc k a d) (app_5 C bc k a d) ?_ ?_ ?_
  · rw [app_5, if_pos rfl]
  · intro z
    exact absurd (app_5 C bc k a d) z
  · refine ⟨0, by omega, app_5 C bc k a d, fun z => absurd z (by omega), fun x x1 x2 => ?_⟩
    rw [app_16, pl_bit x1 x2]
    refine iff_of_false (zero_bit (by omega)) ?_
    rintro ⟨j, j1, -⟩
    omega
theorem note_rel (h : RR C M ec bc gc) (hec : ec < 64) {k : Nat} (hk : k < 2) {p a d : Int32} (hp : inR p (-12) 12) (ha : inR a 0 6) (hd : inR d 0 2) : RR (e_head (c_app C bc ec k a d) ec p) (r_app (tI M 0 0) ec k 0 p a (e_ticks a d)) (ec + 1) 0 gc := by
  have h5 := head_5 (c_app C bc ec k a d) p (app_5 C bc k a d)
  have h50 : ¬ cE (e_head (c_app C bc ec k a d) ec p) ec 5 = 0 := by rw [h5]; decide
  have hk' : ∀ {y : Nat}, y ≠ 5 → y ≠ 6 → y ≠ 7 → y ≠ 16 → cE (e_head (c_app C bc ec k a d) ec p) ec y = cE (c_app C bc ec k a d) ec y := fun a1 a2 a3 a4 => head_k _ p ec a1 a2 a3 a4
  have hd0 : r_hd (r_app (tI M 0 0) ec k 0 p a (e_ticks a d)) ec 0 = p := by
    unfold r_hd r_app
    rw [mA_tI, mA_tI, tA_ne _ _ _ (by decide), tA_at, Nat.add_zero, upd_at]
  refine comes_rel h hec hk ha (ticks_in ha hd) (by rw [head_T, app_T, upd_at]) (by rw [head_T, app_T, upd_ne _ _ (by decide), take_T5]) (by rw [head_T, app_T, upd_ne _ _ (by decide)]) (by rw [head_T, app_T, upd_ne _ _ (by decide)]) (by rw [head_B, app_B]) (by rw [head_G, app_G]) (by rw [head_M, app_M]) (by rw [head_N, app_N]) (by rw [head_V, app_V]) (fun i y hi => ?_) ?_ ?_ ?_ ?_ ?_ ?_ ?_ ?_ ?_ h5 ?_ (fun _ => ⟨?_, ?_⟩) ?_
  · rw [head_ne _ p hi, app_ne C bc k a d hi]
  · rw [hk' (by decide) (by decide) (by decide) (by decide)]; exact app_0 C bc k a d
  · rw [hk' (by decide) (by decide) (by decide) (by decide)]; exact app_1 C bc k a d
  · rw [hk' (by decide) (by decide) (by decide) (by decide)]; exact app_2 C bc k a d
  · rw [hk' (by decide) (by decide) (by decide) (by decide)]; exact app_3 C bc k a d
  · rw [hk' (by decide) (by decide) (by decide) (by decide)]; exact app_4 C bc k a d
  · rw [hk' (by decide) (by decide) (by decide) (by decide)]; exact app_8 C bc k a d
  · rw [hk' (by decide) (by decide) (by decide) (by decide)]; exact app_9 C bc k a d
  · rw [hk' (by decide) (by decide) (by decide) (by decide)]; exact app_17 C bc k a d
  · rw [hk' (by decide) (by decide) (by decide) (by decide)]; exact app_10 C bc k a d
  · rw [if_neg h50]
  · rw [head_6 _ p (app_5 C bc k a d)]; exact hp
  · rw [head_7 _ p (app_5 C bc k a d)]; exact hp
  · refine ⟨1, by omega, h5, fun _ => ⟨?_, ?_⟩, fun x x1 x2 => ?_⟩
    · rw [head_7 _ p (app_5 C bc k a d)]
      exact hd0.symm
    · rw [head_6 _ p (app_5 C bc k a d)]
      exact hd0.symm
    · obtain ⟨y, y1, y2, rfl⟩ := hp
      rw [head_16, app_16, pl_bit y1 y2, pl_bit x1 x2, bit_or _ (by omega) (by omega)]
      constructor
      · rintro (z | z)
        · exact absurd z (zero_bit (by omega))
        · refine ⟨0, by omega, ?_⟩
          rw [hd0]
          congr 1
          omega
      · rintro ⟨j, j1, j2⟩
        have : j = 0 := by omega
        subst this
        rw [hd0, zI_eq (by omega) (by omega) (by omega) (by omega)] at j2
        right
        rw [j2]
theorem tm_ok {v a d : Int32} (h : ¬ c_tm v a d = 0) : (∃ k, k < 2 ∧ v = nI k) ∧ inR a 0 6 ∧ inR d 0 2 := by
  rw [tm_in] at h
  have h1 : inR v 0 1 := c_in_inR (a := 0) (b := 1) (by decide) (by decide) (by decide) (by decide) (fun z => h (Or.inl z))
  have h2 : inR a 0 6 := c_in_inR (a := 0) (b := 6) (by decide) (by decide) (by decide) (by decide) (fun z => h (Or.inr (Or.inl z)))
  have h3 : inR d 0 2 := c_in_inR (a := 0) (b := 2) (by decide) (by decide) (by decide) (by decide) (fun z => h (Or.inr (Or.inr z)))
  obtain ⟨k, k1, k2⟩ := inR_nI (m := 1) h1
  exact ⟨⟨k, by omega, k2⟩, h2, h3⟩
theorem ctR_note (p v a d : Int32) (x : Int32) (M' : mS) (h : zm_C w mX4_comes [.ref q, .int 0, .int p, .int v, .int a, .int d] (mH f q (tI M 0 0), n) (some (.int x)) (mH f q M', n)) : zm_C w mX4_note [.ref q, .int p, .int v, .int a, .int d] (mH f q M, n) (some (.int x)) (mH f q M', n) := by
  refine zm_C.of (mc := 0) (ms := 0) rfl rfl (by decide) (Nat.le_of_ble_eq_true rfl) ?_
  intro Γ X
  refine bkX4_note_0 X [some (.ref q), some (.int p), some (.int v), some (.int a), some (.int d)] [] _ ?_
  simp only [zi_push, zi_ldi, zi_ldl, zi_lda, zi_sti, zi_stl, zi_sta, zi_inc, zi_b, zi_d, zi_u, zi_bl, zi_dl, zi_ul, zi_lcmp, zi_i2l, zi_l2i, zi_if, zi_ic, zi_nul, zi_dup, zi_pop, zi_dup_x1, zi_dup2, zi_gf, zi_pf, zi_ia, zi_is, zi_la, zi_lst, zi_aa, zi_as, zi_len, zi_new, zi_na, zi_mx, zi_mn, zi_sw, zi_swx, zi_cv, zi_cs, zi_ci, zi_obj, zi_iret, zi_lret, zi_zret, zi_aret, zi_vret, zm_s1, zm_s2, zm_k, zm_tk, zm_Rt, zm_is, List.getElem?_cons_zero, List.getElem?_cons_succ, List.set_cons_zero, List.set_cons_succ, List.length_cons, List.length_nil, List.map_cons, List.map_nil, List.sum_cons, List.sum_nil, List.nil_append, List.cons_append, Option.toList, Value.category, reduceIte, Nat.reduceAdd, Nat.reduceLeDiff, Nat.reduceLT, Nat.reduceEqDiff, Nat.reduceMul, and_true, true_and, and_self, Nat.zero_add, Nat.add_zero, Nat.le_refl, true_or, or_true, not_true_eq_false, not_false_eq_true, zm_ft_int, zm_ft_long, zm_ft_ref, zm_ft_null, zm_ft_b0, zm_ft_b1, i_2, i_3, i_4, i_10, io_16, io_64, io_33, io_2, cF_ev, cF_bm, va_rf, cH_0, cH_1, cH_2, cH_3, cH_4, cH_5, uT4, uT5, uT6, uT7, uB1, uB2, uB3, uG, uV, mH_0, mH_1, mH_2, mH_3, mH_4, mH_5, mH_6, mH_7, mH_8, mH_9, mH_10, mH_11, mH_12, mH_13, mH_14, mH_15, mH_16, mH_17, mH_18, mH_19, mH_20, mH_21, vI0, vI1, vI2, vI3, vI5, vI17, vI18, vI19, vA4, vA6, vA7, vA8, vA9, vA10, vA11, vA12, vA13, vA14, vA15, vA16, vA20, vA21, vA22, vA23, vA24, vA25, vA26, vA27, vD]
  refine zm_call.of (h) (Nat.le_refl _) (Nat.le_refl _) ?_
  simp only [zi_push, zi_ldi, zi_ldl, zi_lda, zi_sti, zi_stl, zi_sta, zi_inc, zi_b, zi_d, zi_u, zi_bl, zi_dl, zi_ul, zi_lcmp, zi_i2l, zi_l2i, zi_if, zi_ic, zi_nul, zi_dup, zi_pop, zi_dup_x1, zi_dup2, zi_gf, zi_pf, zi_ia, zi_is, zi_la, zi_lst, zi_aa, zi_as, zi_len, zi_new, zi_na, zi_mx, zi_mn, zi_sw, zi_swx, zi_cv, zi_cs, zi_ci, zi_obj, zi_iret, zi_lret, zi_zret, zi_aret, zi_vret, zm_s1, zm_s2, zm_k, zm_tk, zm_Rt, zm_is, List.getElem?_cons_zero, List.getElem?_cons_succ, List.set_cons_zero, List.set_cons_succ, List.length_cons, List.length_nil, List.map_cons, List.map_nil, List.sum_cons, List.sum_nil, List.nil_append, List.cons_append, Option.toList, Value.category, reduceIte, Nat.reduceAdd, Nat.reduceLeDiff, Nat.reduceLT, Nat.reduceEqDiff, Nat.reduceMul, and_true, true_and, and_self, Nat.zero_add, Nat.add_zero, Nat.le_refl, true_or, or_true, not_true_eq_false, not_false_eq_true, zm_ft_int, zm_ft_long, zm_ft_ref, zm_ft_null, zm_ft_b0, zm_ft_b1, i_2, i_3, i_4, i_10, io_16, io_64, io_33, io_2, cF_ev, cF_bm, va_rf, cH_0, cH_1, cH_2, cH_3, cH_4, cH_5, uT4, uT5, uT6, uT7, uB1, uB2, uB3, uG, uV, mH_0, mH_1, mH_2, mH_3, mH_4, mH_5, mH_6, mH_7, mH_8, mH_9, mH_10, mH_11, mH_12, mH_13, mH_14, mH_15, mH_16, mH_17, mH_18, mH_19, mH_20, mH_21, vI0, vI1, vI2, vI3, vI5, vI17, vI18, vI19, vA4, vA6, vA7, vA8, vA9, vA10, vA11, vA12, vA13, vA14, vA15, vA16, vA20, vA21, vA22, vA23, vA24, vA25, vA26, vA27, vD]
theorem ctR_pause (v a d : Int32) (x : Int32) (M' : mS) (h : zm_C w mX4_comes [.ref q, .int 1, .int 0, .int v, .int a, .int d] (mH f q (tI M 0 0), n) (some (.int x)) (mH f q M', n)) : zm_C w mX4_pause [.ref q, .int v, .int a, .int d] (mH f q M, n) (some (.int x)) (mH f q M', n) := by
  refine zm_C.of (mc := 0) (ms := 0) rfl rfl (by decide) (Nat.le_of_ble_eq_true rfl) ?_
  intro Γ X
  refine bkX4_pause_0 X [some (.ref q), some (.int v), some (.int a), some (.int d)] [] _ ?_
  simp only [zi_push, zi_ldi, zi_ldl, zi_lda, zi_sti, zi_stl, zi_sta, zi_inc, zi_b, zi_d, zi_u, zi_bl, zi_dl, zi_ul, zi_lcmp, zi_i2l, zi_l2i, zi_if, zi_ic, zi_nul, zi_dup, zi_pop, zi_dup_x1, zi_dup2, zi_gf, zi_pf, zi_ia, zi_is, zi_la, zi_lst, zi_aa, zi_as, zi_len, zi_new, zi_na, zi_mx, zi_mn, zi_sw, zi_swx, zi_cv, zi_cs, zi_ci, zi_obj, zi_iret, zi_lret, zi_zret, zi_aret, zi_vret, zm_s1, zm_s2, zm_k, zm_tk, zm_Rt, zm_is, List.getElem?_cons_zero, List.getElem?_cons_succ, List.set_cons_zero, List.set_cons_succ, List.length_cons, List.length_nil, List.map_cons, List.map_nil, List.sum_cons, List.sum_nil, List.nil_append, List.cons_append, Option.toList, Value.category, reduceIte, Nat.reduceAdd, Nat.reduceLeDiff, Nat.reduceLT, Nat.reduceEqDiff, Nat.reduceMul, and_true, true_and, and_self, Nat.zero_add, Nat.add_zero, Nat.le_refl, true_or, or_true, not_true_eq_false, not_false_eq_true, zm_ft_int, zm_ft_long, zm_ft_ref, zm_ft_null, zm_ft_b0, zm_ft_b1, i_2, i_3, i_4, i_10, io_16, io_64, io_33, io_2, cF_ev, cF_bm, va_rf, cH_0, cH_1, cH_2, cH_3, cH_4, cH_5, uT4, uT5, uT6, uT7, uB1, uB2, uB3, uG, uV, mH_0, mH_1, mH_2, mH_3, mH_4, mH_5, mH_6, mH_7, mH_8, mH_9, mH_10, mH_11, mH_12, mH_13, mH_14, mH_15, mH_16, mH_17, mH_18, mH_19, mH_20, mH_21, vI0, vI1, vI2, vI3, vI5, vI17, vI18, vI19, vA4, vA6, vA7, vA8, vA9, vA10, vA11, vA12, vA13, vA14, vA15, vA16, vA20, vA21, vA22, vA23, vA24, vA25, vA26, vA27, vD]
  refine zm_call.of (h) (Nat.le_refl _) (Nat.le_refl _) ?_
  simp only [zi_push, zi_ldi, zi_ldl, zi_lda, zi_sti, zi_stl, zi_sta, zi_inc, zi_b, zi_d, zi_u, zi_bl, zi_dl, zi_ul, zi_lcmp, zi_i2l, zi_l2i, zi_if, zi_ic, zi_nul, zi_dup, zi_pop, zi_dup_x1, zi_dup2, zi_gf, zi_pf, zi_ia, zi_is, zi_la, zi_lst, zi_aa, zi_as, zi_len, zi_new, zi_na, zi_mx, zi_mn, zi_sw, zi_swx, zi_cv, zi_cs, zi_ci, zi_obj, zi_iret, zi_lret, zi_zret, zi_aret, zi_vret, zm_s1, zm_s2, zm_k, zm_tk, zm_Rt, zm_is, List.getElem?_cons_zero, List.getElem?_cons_succ, List.set_cons_zero, List.set_cons_succ, List.length_cons, List.length_nil, List.map_cons, List.map_nil, List.sum_cons, List.sum_nil, List.nil_append, List.cons_append, Option.toList, Value.category, reduceIte, Nat.reduceAdd, Nat.reduceLeDiff, Nat.reduceLT, Nat.reduceEqDiff, Nat.reduceMul, and_true, true_and, and_self, Nat.zero_add, Nat.add_zero, Nat.le_refl, true_or, or_true, not_true_eq_false, not_false_eq_true, zm_ft_int, zm_ft_long, zm_ft_ref, zm_ft_null, zm_ft_b0, zm_ft_b1, i_2, i_3, i_4, i_10, io_16, io_64, io_33, io_2, cF_ev, cF_bm, va_rf, cH_0, cH_1, cH_2, cH_3, cH_4, cH_5, uT4, uT5, uT6, uT7, uB1, uB2, uB3, uG, uV, mH_0, mH_1, mH_2, mH_3, mH_4, mH_5, mH_6, mH_7, mH_8, mH_9, mH_10, mH_11, mH_12, mH_13, mH_14, mH_15, mH_16, mH_17, mH_18, mH_19, mH_20, mH_21, vI0, vI1, vI2, vI3, vI5, vI17, vI18, vI19, vA4, vA6, vA7, vA8, vA9, vA10, vA11, vA12, vA13, vA14, vA15, vA16, vA20, vA21, vA22, vA23, vA24, vA25, vA26, vA27, vD]
theorem j_note (h : RR C M ec bc gc) (p v a d : Int32) : jI w o q mX3_note mX4_note [.int p, .int v, .int a, .int d] C M := by
  have h0 : rR C (tI M 0 0) ec bc gc := rR_I h.1 rfl rfl rfl rfl rfl rfl rfl rfl
  have hec : ec ≤ 64 := h.1.2.2.2.2.2.1.1
  by_cases hr : c_pl p = 0 ∨ c_tm v a d = 0
  · exact ⟨-1003, C, tI M 0 0, ec, bc, gc, fun f n => ctS_note1 p v a d hr, fun f n => ctR_note p v a d _ _ (ctR_comes1 hr), RR_th h 0⟩
  · have h1 : ¬ c_pl p = 0 := fun z => hr (Or.inl z)
    have h2 : ¬ c_tm v a d = 0 := fun z => hr (Or.inr z)
    obtain ⟨⟨k, hk, rfl⟩, ha, hd⟩ := tm_ok h2
    have hp : inR p (-12) 12 := c_in_inR (a := -12) (b := 12) (by decide) (by decide) (by decide) (by decide) h1
    by_cases hoff : b_off (cB C) (cV C k) + e_ticks a d ≤ cB C 2
    · by_cases h64 : ec = 64
      · exact ⟨-1005, C, tI M 0 0, ec, bc, gc, fun f n => ctS_note3 (by rw [h.1.2.1, h64]) hk p a d h1 h2 hoff, fun f n => ctR_note p _ a d _ _ (ctR_comes h0 hk h1 h2 _ _ (Or.inr (Or.inl ⟨hoff, h64, rfl, rfl⟩))), RR_th h 0⟩
      · exact ⟨nI ec, _, _, ec + 1, 0, gc, fun f n => ctS_note4 (by omega) h.1.2.2.2.2.1 h.1.2.1 h.1.2.2.1 h.1.1 hk p a d h1 h2 hoff, fun f n => ctR_note p _ a d _ _ (ctR_comes h0 hk h1 h2 _ _ (Or.inr (Or.inr ⟨hoff, by omega, rfl, rfl⟩))), note_rel h (by omega) hk hp ha hd⟩
    · exact ⟨-1004, C, tI M 0 0, ec, bc, gc, fun f n => ctS_note2 hec h.1.2.2.2.2.1 h.1.2.1 h.1.2.2.1 h.1.1 hk p a d h1 h2 hoff, fun f n => ctR_note p _ a d _ _ (ctR_comes h0 hk h1 h2 _ _ (Or.inl ⟨hoff, rfl, rfl⟩)), RR_th h 0⟩
theorem j_pause (h : RR C M ec bc gc) (v a d : Int32) : jI w o q mX3_pause mX4_pause [.int v, .int a, .int d] C M := by
  have h0 : rR C (tI M 0 0) ec bc gc := rR_I h.1 rfl rfl rfl rfl rfl rfl rfl rfl
  have hec : ec ≤ 64 := h.1.2.2.2.2.2.1.1
  have h1 : ¬ c_pl 0 = 0 := by decide
  by_cases h2 : c_tm v a d = 0
  · exact ⟨-1003, C, tI M 0 0, ec, bc, gc, fun f n => ctS_pause1 v a d h2, fun f n => ctR_pause v a d _ _ (ctR_comes1 (Or.inr h2)), RR_th h 0⟩
  · obtain ⟨⟨k, hk, rfl⟩, ha, hd⟩ := tm_ok h2
    by_cases hoff : b_off (cB C) (cV C k) + e_ticks a d ≤ cB C 2
    · by_cases h64 : ec = 64
      · exact ⟨-1005, C, tI M 0 0, ec, bc, gc, fun f n => ctS_pause3 (by rw [h.1.2.1, h64]) hk a d h2 hoff, fun f n => ctR_pause _ a d _ _ (ctR_comes h0 hk h1 h2 _ _ (Or.inr (Or.inl ⟨hoff, h64, rfl, rfl⟩))), RR_th h 0⟩
      · exact ⟨nI ec, _, _, ec + 1, 0, gc, fun f n => ctS_pause4 (by omega) h.1.2.2.2.2.1 h.1.2.1 h.1.2.2.1 h.1.1 hk a d h2 hoff, fun f n => ctR_pause _ a d _ _ (ctR_comes h0 hk h1 h2 _ _ (Or.inr (Or.inr ⟨hoff, by omega, rfl, rfl⟩))), pause_rel h (by omega) hk ha hd⟩
    · exact ⟨-1004, C, tI M 0 0, ec, bc, gc, fun f n => ctS_pause2 hec h.1.2.2.2.2.1 h.1.2.1 h.1.2.2.1 h.1.1 hk a d h2 hoff, fun f n => ctR_pause _ a d _ _ (ctR_comes h0 hk h1 h2 _ _ (Or.inl ⟨hoff, rfl, rfl⟩)), RR_th h 0⟩
end
