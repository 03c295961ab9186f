/-! find -/
def r_set (M : mS) (b : Nat) (t : Int64 × Int32 × Int32) : mS := tA (tA (tD M b t.1) 23 b t.2.1) 24 b t.2.2
theorem r_set_I (M : mS) (b : Nat) (t : Int64 × Int32 × Int32) : mI (r_set M b t) = mI M := rfl
theorem r_set_A (M : mS) (b : Nat) (t : Int64 × Int32 × Int32) {k : Nat} (h3 : k ≠ 23) (h4 : k ≠ 24) : mA (r_set M b t) k = mA M k := by
  unfold r_set
  rw [tA_ne _ _ _ h4, tA_ne _ _ _ h3, mA_tD]
theorem r_set_D (M : mS) (b : Nat) (t : Int64 × Int32 × Int32) : mD (r_set M b t) b = t.1 := by
  show vp_updL _ _ _ _ = _
  simp [vp_updL]
theorem mS_ext {M M' : mS} (h1 : mI M = mI M') (h2 : ∀ k i, mA M k i = mA M' k i) (h3 : ∀ i, mD M i = mD M' i) : M = M' := by
  obtain ⟨a, c, d⟩ := M
  obtain ⟨a', c', d'⟩ := M'
  have e1 : a = a' := h1
  have e2 : c = c' := funext fun k => funext fun i => h2 k i
  have e3 : d = d' := funext h3
  rw [e1, e2, e3]
theorem r_set_set (M : mS) (b : Nat) (t : Int64 × Int32 × Int32) (x : Int64) (y z : Int32) : tA (tA (tD (r_set M b t) b x) 23 b y) 24 b z = r_set M b (x, y, z) := by
  refine mS_ext rfl (fun k i => ?_) (fun i => ?_)
  · unfold r_set
    simp only [mA_tA, mA_tD]
    unfold up2
    split
    · rfl
    · split
      · rfl
      · rfl
  · unfold r_set
    simp only [mD_tA, mD_tD]
    unfold vp_updL
    split <;> rfl
theorem r_set_0 (M : mS) (b : Nat) (x : Int64) : tD M b x = r_set M b (x, mA M 23 b, mA M 24 b) := by
  refine mS_ext rfl (fun k i => ?_) (fun i => rfl)
  unfold r_set
  simp only [mA_tA, mA_tD]
  unfold up2
  split
  · rename_i h
    rw [h.1, h.2]
  · split
    · rename_i h
      rw [h.1, h.2]
    · rfl
/-- what the relations see of the reference -/
theorem eR_of {C : cS} {M M' : mS} {ec : Nat} (h5 : mI M' 5 = mI M 5) (h : ∀ k, 6 ≤ k → k ≤ 15 → mA M' k = mA M k) (he : eR C M ec) : eR C M' ec := by
  obtain ⟨h1, h2, h3⟩ := he
  refine ⟨h1, by rw [h5]; exact h2, fun i hi => ?_⟩
  obtain ⟨g1, g2, g3⟩ := h3 i hi
  refine ⟨?_, g2, ?_⟩
  · unfold eO1
    rw [h 7 (by omega) (by omega), h 8 (by omega) (by omega), h 9 (by omega) (by omega), h 10 (by omega) (by omega), h 11 (by omega) (by omega), h 12 (by omega) (by omega), h 13 (by omega) (by omega), h 15 (by omega) (by omega), h 6 (by omega) (by omega)]
    exact g1
  · unfold eO3 r_hd
    rw [h 14 (by omega) (by omega)]
    exact g3
theorem bN_of {C : cS} {M M' : mS} {b ec : Nat} (h20 : mA M' 20 = mA M 20) (h21 : mA M' 21 = mA M 21) (hb : bN C M b ec) : bN C M' b ec := by
  unfold bN
  rw [h20, h21]
  exact hb
theorem bA_of {C : cS} {M M' : mS} {b : Nat} (h22 : mA M' 22 = mA M 22) (ha : bA C M b) : bA C M' b := by
  unfold bA
  rw [h22]
  exact ha
def r_fiF (C : cS) (j S : Nat) (i : Nat) (t : Int64 × Int32 × Int32) : Int64 × Int32 × Int32 := itr (m_try C j S (m_bg C j S) (m_step C j) (m_sOf i)) (m_steps C j + 1) 0 t
def r_fi (C : cS) (j S : Nat) (x y : Int32) : Int64 × Int32 × Int32 := itr (r_fiF C j S) (m_last C j + 1) 0 (-1, x, y)
theorem s13 : ∀ i : Fin 13, (nI i.val - nI i.val / 2 * 2 = 1 → (nI i.val + 1) / 2 = m_sOf i.val) ∧ ((¬ nI i.val - nI i.val / 2 * 2 = 1) → -nI i.val / 2 = m_sOf i.val) := by decide +kernel
theorem s13r : ∀ i : Fin 13, -6 ≤ (m_sOf i.val).toInt ∧ (m_sOf i.val).toInt ≤ 6 := by decide +kernel
theorem s13_in {i : Nat} (h : i < 13) : inR (m_sOf i) (-6) 6 := inR_of (s13r ⟨i, h⟩).1 (s13r ⟨i, h⟩).2
section
variable {w : zW} {f : Nat → Option zO} {q : Nat} {M : mS} {n : Nat × Nat} {C : cS} {b ec : Nat}
/-- where note k lets the beam of slant 0 lie -/
theorem lh_in (he : eR C M ec) (hb : bN C M b ec) (ha : bA C M b) {k : Nat} (hk : k < csz C b) (hw : cM C b 2 = 1 ∨ cM C b 2 = -1) : inR (m_lh0 C b k) (-100) 100 := by
  obtain ⟨x, x1, x2, x3⟩ := aim_near he hb ha hk
  obtain ⟨g1, g2, g3, g4⟩ := hb.2.2.2 k hk
  obtain ⟨y, y1, y2, y3⟩ := more_in (he.2.2 _ g2).2.1.2.1
  unfold m_lh0
  rw [x3, (ha.2.2 k hk).2.2.2, y3]
  rcases hw with h | h
  · rw [h]
    exact ⟨x + 1 * (10 + y), by omega, by omega, by
      rw [show (1 : Int32) = zI 1 from rfl, show (10 : Int32) = zI 10 from rfl, zI_add, zI_mul, zI_add]⟩
  · rw [h]
    exact ⟨x + -1 * (10 + y), by omega, by omega, by
      rw [show (-1 : Int32) = zI (-1) from rfl, show (10 : Int32) = zI 10 from rfl, zI_add, zI_mul, zI_add]⟩
theorem lhF_eq {wy x y : Int32} (hw : wy = 1 ∨ wy = -1) (hx : inR x (-100) 100) (hy : inR y (-100) 100) : (if wy * y ≤ wy * x then wy * x else wy * y) = wy * (if wy = 1 then (if x < y then y else x) else (if y < x then y else x)) := by
  obtain ⟨a, a1, a2, rfl⟩ := hx
  obtain ⟨c, c1, c2, rfl⟩ := hy
  rcases hw with rfl | rfl
  · rw [if_pos rfl, show (1 : Int32) = zI 1 from rfl, zI_mul, zI_mul]
    have e1 : zI (1 * c) ≤ zI (1 * a) ↔ 1 * c ≤ 1 * a := zI_le (by omega) (by omega) (by omega) (by omega)
    have e2 : zI a < zI c ↔ a < c := zI_lt (by omega) (by omega) (by omega) (by omega)
    by_cases h : a < c
    · rw [if_pos (e2.mpr h), if_neg (fun r => by have := e1.mp r; omega), zI_mul]
    · rw [if_neg (fun r => h (e2.mp r)), if_pos (e1.mpr (by omega)), zI_mul]
  · rw [if_neg (show ¬ ((-1 : Int32) = 1) by decide), show (-1 : Int32) = zI (-1) from rfl, zI_mul, zI_mul]
    have e1 : zI (-1 * c) ≤ zI (-1 * a) ↔ -1 * c ≤ -1 * a := zI_le (by omega) (by omega) (by omega) (by omega)
    have e2 : zI c < zI a ↔ c < a := zI_lt (by omega) (by omega) (by omega) (by omega)
    by_cases h : c < a
    · rw [if_pos (e2.mpr h), if_neg (fun r => by have := e1.mp r; omega), zI_mul]
    · rw [if_neg (fun r => h (e2.mp r)), if_pos (e1.mpr (by omega)), zI_mul]
theorem ctR_find (he : eR C M ec) (hb : bN C M b ec) (ha : bA C M b) (hs : 2 ≤ csz C b) (hI : mA M 25 b = cM C b 5) (hF : mA M 26 b = cM C b 7) (hF2 : cM C b 7 = 0 ∨ cM C b 7 = 1) : zm_C w mX4_find [.ref q, .int (nI b)] (mH f q M, n) (some (.int (if (r_fi C b (csz C b) (mA M 23 b) (mA M 24 b)).1 < 0 then 0 else 1))) (mH f q (r_set M b (r_fi C b (csz C b) (mA M 23 b) (mA M 24 b))), n) := by
  have hb33 := hb.1
  have hS := hb.2.1
  have hcb : (nI b).toNatClampNeg = b := nI_clamp (by omega)
  have tE : ∀ t, eR C (r_set M b t) ec := fun t => by
    refine eR_of (M := M) rfl (fun k h1 h2 => ?_) he
    have h3 : k ≠ 23 := by omega
    have h4 : k ≠ 24 := by omega
    exact r_set_A M b t h3 h4
  have tN : ∀ t, bN C (r_set M b t) b ec := fun t => bN_of (r_set_A M b t (by omega) (by omega)) (r_set_A M b t (by omega) (by omega)) hb
  have tA' : ∀ t, bA C (r_set M b t) b := fun t => bA_of (r_set_A M b t (by omega) (by omega)) ha
  have r22 : ∀ t, mA (r_set M b t) 22 b = cM C b 2 := fun t => by rw [r_set_A M b t (by omega) (by omega), ha.1]
  have r26 : ∀ t, mA (r_set M b t) 26 b = cM C b 7 := fun t => by rw [r_set_A M b t (by omega) (by omega), hF]
  have r25 : ∀ t, mA (r_set M b t) 25 b = cM C b 5 := fun t => by rw [r_set_A M b t (by omega) (by omega), hI]
  have hla : m_last C b ≤ 12 := by unfold m_last; split <;> omega
  refine zm_C.of (mc := 0) (ms := 0) rfl rfl (by decide) (Nat.le_of_ble_eq_true rfl) ?_
  intro Γ X
  -- the outer loop
  have outer : ∀ (J : Int32), (cM C b 2 = 0 ∨ ((cM C b 2 = 1 ∨ cM C b 2 = -1) ∧ cM C b 2 * J - 24 * cM C b 2 = m_bg C b (csz C b))) → ∀ (m i : Nat) (t : Int64 × Int32 × Int32) (r4 r5 r6 r7 : Option Value), i + m = m_last C b + 1 → itr (r_fiF C b (csz C b)) m i t = r_fi C b (csz C b) (mA M 23 b) (mA M 24 b) → zm_V w Γ 86 [some (.ref q), some (.int (nI b)), some (.int J), some (.int (nI i)), r4, r5, r6, r7, none] [] (mH f q (r_set M b t), n) := by
    intro J hJ m
    induction m with
    | zero =>
      intro i t r4 r5 r6 r7 h1 h2
      have k103 : ∀ c : Nat, c ≤ i → zm_V w Γ 103 [some (.ref q), some (.int (nI b)), some (.int J), some (.int (nI i)), r4, r5, r6, r7, none] [.int (nI c), .int (nI i)] (mH f q (r_set M b t), n) := by
        intro c hc
        refine bkX4_find_103 X _ _ _ ?_
        simp only [zi_push, zi_ldi, zi_ldl, zi_lda, zi_sti, zi_stl, zi_sta, zi_inc, zi_b, zi_d, zi_u, zi_bl, zi_dl, zi_ul, zi_lcmp, zi_i2l, zi_l2i, zi_if, zi_ic, zi_nul, zi_dup, zi_pop, zi_dup_x1, zi_dup2, zi_gf, zi_pf, zi_ia, zi_is, zi_la, zi_lst, zi_aa, zi_as, zi_len, zi_new, zi_na, zi_mx, zi_mn, zi_sw, zi_swx, zi_cv, zi_cs, zi_ci, zi_obj, zi_iret, zi_lret, zi_zret, zi_aret, zi_vret, zm_s1, zm_s2, zm_k, zm_tk, zm_Rt, zm_is, List.getElem?_cons_zero, List.getElem?_cons_succ, List.set_cons_zero, List.set_cons_succ, List.length_cons, List.length_nil, List.map_cons, List.map_nil, List.sum_cons, List.sum_nil, List.nil_append, List.cons_append, Option.toList, Value.category, reduceIte, Nat.reduceAdd, Nat.reduceLeDiff, Nat.reduceLT, Nat.reduceEqDiff, Nat.reduceMul, and_true, true_and, and_self, Nat.zero_add, Nat.add_zero, Nat.le_refl, true_or, or_true, not_true_eq_false, not_false_eq_true, zm_ft_int, zm_ft_long, zm_ft_ref, zm_ft_null, zm_ft_b0, zm_ft_b1, i_2, i_3, i_4, i_10, io_16, io_64, io_33, io_2, cF_ev, cF_bm, va_rf, cH_0, cH_1, cH_2, cH_3, cH_4, cH_5, uT4, uT5, uT6, uT7, uB1, uB2, uB3, uG, uV, mH_0, mH_1, mH_2, mH_3, mH_4, mH_5, mH_6, mH_7, mH_8, mH_9, mH_10, mH_11, mH_12, mH_13, mH_14, mH_15, mH_16, mH_17, mH_18, mH_19, mH_20, mH_21, vI0, vI1, vI2, vI3, vI5, vI17, vI18, vI19, vA4, vA6, vA7, vA8, vA9, vA10, vA11, vA12, vA13, vA14, vA15, vA16, vA20, vA21, vA22, vA23, vA24, vA25, vA26, vA27, vD, hcb, r_set_D, lg_lt]
        refine ⟨fun _ => ?_, fun r => absurd (nI_le (by omega) (by omega)) r⟩
        rw [itr] at h2
        rw [← h2]
        refine ⟨vp_in_nI (by omega) (by decide), fun r => ?_, fun r => ?_⟩
        · rw [if_pos r]
          exact ⟨rfl, rfl⟩
        · rw [if_neg r]
          exact ⟨rfl, rfl⟩
      refine bkX4_find_86 X _ _ _ ?_
      simp only [zi_push, zi_ldi, zi_ldl, zi_lda, zi_sti, zi_stl, zi_sta, zi_inc, zi_b, zi_d, zi_u, zi_bl, zi_dl, zi_ul, zi_lcmp, zi_i2l, zi_l2i, zi_if, zi_ic, zi_nul, zi_dup, zi_pop, zi_dup_x1, zi_dup2, zi_gf, zi_pf, zi_ia, zi_is, zi_la, zi_lst, zi_aa, zi_as, zi_len, zi_new, zi_na, zi_mx, zi_mn, zi_sw, zi_swx, zi_cv, zi_cs, zi_ci, zi_obj, zi_iret, zi_lret, zi_zret, zi_aret, zi_vret, zm_s1, zm_s2, zm_k, zm_tk, zm_Rt, zm_is, List.getElem?_cons_zero, List.getElem?_cons_succ, List.set_cons_zero, List.set_cons_succ, List.length_cons, List.length_nil, List.map_cons, List.map_nil, List.sum_cons, List.sum_nil, List.nil_append, List.cons_append, Option.toList, Value.category, reduceIte, Nat.reduceAdd, Nat.reduceLeDiff, Nat.reduceLT, Nat.reduceEqDiff, Nat.reduceMul, and_true, true_and, and_self, Nat.zero_add, Nat.add_zero, Nat.le_refl, true_or, or_true, not_true_eq_false, not_false_eq_true, zm_ft_int, zm_ft_long, zm_ft_ref, zm_ft_null, zm_ft_b0, zm_ft_b1, i_2, i_3, i_4, i_10, io_16, io_64, io_33, io_2, cF_ev, cF_bm, va_rf, cH_0, cH_1, cH_2, cH_3, cH_4, cH_5, uT4, uT5, uT6, uT7, uB1, uB2, uB3, uG, uV, mH_0, mH_1, mH_2, mH_3, mH_4, mH_5, mH_6, mH_7, mH_8, mH_9, mH_10, mH_11, mH_12, mH_13, mH_14, mH_15, mH_16, mH_17, mH_18, mH_19, mH_20, mH_21, vI0, vI1, vI2, vI3, vI5, vI17, vI18, vI19, vA4, vA6, vA7, vA8, vA9, vA10, vA11, vA12, vA13, vA14, vA15, vA16, vA20, vA21, vA22, vA23, vA24, vA25, vA26, vA27, vD, hcb, r26]
      refine ⟨vp_in_nI (by omega) (by decide), fun r => ?_, fun r => ?_⟩
      · refine k103 1 ?_
        omega
      · refine k103 13 ?_
        rcases hF2 with h | h
        · have : m_last C b = 12 := by rw [m_last, if_pos h]
          omega
        · exact absurd h r
    | succ m ih =>
      intro i t r4 r5 r6 r7 h1 h2
      have hi13 : i < 13 := by omega
      rw [itr] at h2
      -- the inner loop
      have inner : ∀ (z : Nat) (d : Nat) (u : Int64 × Int32 × Int32) (r6 r7 : Option Value), d + z = m_steps C b + 1 → itr (m_try C b (csz C b) (m_bg C b (csz C b)) (m_step C b) (m_sOf i)) z d u = r_fiF C b (csz C b) i t → zm_V w Γ 145 [some (.ref q), some (.int (nI b)), some (.int J), some (.int (nI i)), some (.int (m_sOf i)), some (.int ((if cM C b 2 = 0 then -48 else -24) + nI d)), r6, r7, none] [] (mH f q (r_set M b u), n) := by
        intro z
        induction z with
        | zero =>
          intro d u r6 r7 g1 g2
          rw [itr] at g2
          have k162 : ∀ y : Int32, y < (if cM C b 2 = 0 then -48 else -24) + nI d → zm_V w Γ 162 [some (.ref q), some (.int (nI b)), some (.int J), some (.int (nI i)), some (.int (m_sOf i)), some (.int ((if cM C b 2 = 0 then -48 else -24) + nI d)), r6, r7, none] [.int y, .int ((if cM C b 2 = 0 then -48 else -24) + nI d)] (mH f q (r_set M b u), n) := by
            intro y hy
            refine bkX4_find_162 X _ _ _ ?_
            simp only [zi_push, zi_ldi, zi_ldl, zi_lda, zi_sti, zi_stl, zi_sta, zi_inc, zi_b, zi_d, zi_u, zi_bl, zi_dl, zi_ul, zi_lcmp, zi_i2l, zi_l2i, zi_if, zi_ic, zi_nul, zi_dup, zi_pop, zi_dup_x1, zi_dup2, zi_gf, zi_pf, zi_ia, zi_is, zi_la, zi_lst, zi_aa, zi_as, zi_len, zi_new, zi_na, zi_mx, zi_mn, zi_sw, zi_swx, zi_cv, zi_cs, zi_ci, zi_obj, zi_iret, zi_lret, zi_zret, zi_aret, zi_vret, zm_s1, zm_s2, zm_k, zm_tk, zm_Rt, zm_is, List.getElem?_cons_zero, List.getElem?_cons_succ, List.set_cons_zero, List.set_cons_succ, List.length_cons, List.length_nil, List.map_cons, List.map_nil, List.sum_cons, List.sum_nil, List.nil_append, List.cons_append, Option.toList, Value.category, reduceIte, Nat.reduceAdd, Nat.reduceLeDiff, Nat.reduceLT, Nat.reduceEqDiff, Nat.reduceMul, and_true, true_and, and_self, Nat.zero_add, Nat.add_zero, Nat.le_refl, true_or, or_true, not_true_eq_false, not_false_eq_true, zm_ft_int, zm_ft_long, zm_ft_ref, zm_ft_null, zm_ft_b0, zm_ft_b1, i_2, i_3, i_4, i_10, io_16, io_64, io_33, io_2, cF_ev, cF_bm, va_rf, cH_0, cH_1, cH_2, cH_3, cH_4, cH_5, uT4, uT5, uT6, uT7, uB1, uB2, uB3, uG, uV, mH_0, mH_1, mH_2, mH_3, mH_4, mH_5, mH_6, mH_7, mH_8, mH_9, mH_10, mH_11, mH_12, mH_13, mH_14, mH_15, mH_16, mH_17, mH_18, mH_19, mH_20, mH_21, vI0, vI1, vI2, vI3, vI5, vI17, vI18, vI19, vA4, vA6, vA7, vA8, vA9, vA10, vA11, vA12, vA13, vA14, vA15, vA16, vA20, vA21, vA22, vA23, vA24, vA25, vA26, vA27, vD, nI_1]
            refine ⟨fun _ => ?_, fun r => absurd hy r⟩
            rw [g2]
            exact ih (i + 1) _ _ _ _ _ (by omega) h2
          refine bkX4_find_145 X _ _ _ ?_
          simp only [zi_push, zi_ldi, zi_ldl, zi_lda, zi_sti, zi_stl, zi_sta, zi_inc, zi_b, zi_d, zi_u, zi_bl, zi_dl, zi_ul, zi_lcmp, zi_i2l, zi_l2i, zi_if, zi_ic, zi_nul, zi_dup, zi_pop, zi_dup_x1, zi_dup2, zi_gf, zi_pf, zi_ia, zi_is, zi_la, zi_lst, zi_aa, zi_as, zi_len, zi_new, zi_na, zi_mx, zi_mn, zi_sw, zi_swx, zi_cv, zi_cs, zi_ci, zi_obj, zi_iret, zi_lret, zi_zret, zi_aret, zi_vret, zm_s1, zm_s2, zm_k, zm_tk, zm_Rt, zm_is, List.getElem?_cons_zero, List.getElem?_cons_succ, List.set_cons_zero, List.set_cons_succ, List.length_cons, List.length_nil, List.map_cons, List.map_nil, List.sum_cons, List.sum_nil, List.nil_append, List.cons_append, Option.toList, Value.category, reduceIte, Nat.reduceAdd, Nat.reduceLeDiff, Nat.reduceLT, Nat.reduceEqDiff, Nat.reduceMul, and_true, true_and, and_self, Nat.zero_add, Nat.add_zero, Nat.le_refl, true_or, or_true, not_true_eq_false, not_false_eq_true, zm_ft_int, zm_ft_long, zm_ft_ref, zm_ft_null, zm_ft_b0, zm_ft_b1, i_2, i_3, i_4, i_10, io_16, io_64, io_33, io_2, cF_ev, cF_bm, va_rf, cH_0, cH_1, cH_2, cH_3, cH_4, cH_5, uT4, uT5, uT6, uT7, uB1, uB2, uB3, uG, uV, mH_0, mH_1, mH_2, mH_3, mH_4, mH_5, mH_6, mH_7, mH_8, mH_9, mH_10, mH_11, mH_12, mH_13, mH_14, mH_15, mH_16, mH_17, mH_18, mH_19, mH_20, mH_21, vI0, vI1, vI2, vI3, vI5, vI17, vI18, vI19, vA4, vA6, vA7, vA8, vA9, vA10, vA11, vA12, vA13, vA14, vA15, vA16, vA20, vA21, vA22, vA23, vA24, vA25, vA26, vA27, vD, hcb, r22]
          refine ⟨vp_in_nI (by omega) (by decide), fun r => k162 0 ?_, fun r => k162 12 ?_⟩
          · have : d = 49 := by rw [m_steps, if_pos r] at g1; omega
            rw [if_pos r, this]
            decide
          · have : d = 37 := by rw [m_steps, if_neg r] at g1; omega
            rw [if_neg r, this]
            decide
        | succ z ihz =>
          intro d u r6 r7 g1 g2
          rw [itr] at g2
          have hst : (nI d + 1 : Int32) = nI (d + 1) := nI_1 d
          have e145 : (if cM C b 2 = 0 then (-48 : Int32) else -24) + nI d + 1 = (if cM C b 2 = 0 then -48 else -24) + nI (d + 1) := by rw [Int32.add_assoc, hst]
          have k190 : ∀ g : Int32, g = m_bg C b (csz C b) + m_step C b * nI d → zm_V w Γ 190 [some (.ref q), some (.int (nI b)), some (.int J), some (.int (nI i)), some (.int (m_sOf i)), some (.int ((if cM C b 2 = 0 then -48 else -24) + nI d)), r6, r7, none] [.int g] (mH f q (r_set M b u), n) := by
            intro g hg
            rw [m_try, ← hg] at g2
            have k233 : itr (m_try C b (csz C b) (m_bg C b (csz C b)) (m_step C b) (m_sOf i)) z (d + 1) (m_bad C b (csz C b) g (m_sOf i), g, m_sOf i) = r_fiF C b (csz C b) i t → zm_V w Γ 233 [some (.ref q), some (.int (nI b)), some (.int J), some (.int (nI i)), some (.int (m_sOf i)), some (.int ((if cM C b 2 = 0 then -48 else -24) + nI d)), some (.int g), some (.long (m_bad C b (csz C b) g (m_sOf i))), none] [] (mH f q (r_set M b u), n) := by
              intro hh
              refine bkX4_find_233 X _ _ _ ?_
              simp only [zi_push, zi_ldi, zi_ldl, zi_lda, zi_sti, zi_stl, zi_sta, zi_inc, zi_b, zi_d, zi_u, zi_bl, zi_dl, zi_ul, zi_lcmp, zi_i2l, zi_l2i, zi_if, zi_ic, zi_nul, zi_dup, zi_pop, zi_dup_x1, zi_dup2, zi_gf, zi_pf, zi_ia, zi_is, zi_la, zi_lst, zi_aa, zi_as, zi_len, zi_new, zi_na, zi_mx, zi_mn, zi_sw, zi_swx, zi_cv, zi_cs, zi_ci, zi_obj, zi_iret, zi_lret, zi_zret, zi_aret, zi_vret, zm_s1, zm_s2, zm_k, zm_tk, zm_Rt, zm_is, List.getElem?_cons_zero, List.getElem?_cons_succ, List.set_cons_zero, List.set_cons_succ, List.length_cons, List.length_nil, List.map_cons, List.map_nil, List.sum_cons, List.sum_nil, List.nil_append, List.cons_append, Option.toList, Value.category, reduceIte, Nat.reduceAdd, Nat.reduceLeDiff, Nat.reduceLT, Nat.reduceEqDiff, Nat.reduceMul, and_true, true_and, and_self, Nat.zero_add, Nat.add_zero, Nat.le_refl, true_or, or_true, not_true_eq_false, not_false_eq_true, zm_ft_int, zm_ft_long, zm_ft_ref, zm_ft_null, zm_ft_b0, zm_ft_b1, i_2, i_3, i_4, i_10, io_16, io_64, io_33, io_2, cF_ev, cF_bm, va_rf, cH_0, cH_1, cH_2, cH_3, cH_4, cH_5, uT4, uT5, uT6, uT7, uB1, uB2, uB3, uG, uV, mH_0, mH_1, mH_2, mH_3, mH_4, mH_5, mH_6, mH_7, mH_8, mH_9, mH_10, mH_11, mH_12, mH_13, mH_14, mH_15, mH_16, mH_17, mH_18, mH_19, mH_20, mH_21, vI0, vI1, vI2, vI3, vI5, vI17, vI18, vI19, vA4, vA6, vA7, vA8, vA9, vA10, vA11, vA12, vA13, vA14, vA15, vA16, vA20, vA21, vA22, vA23, vA24, vA25, vA26, vA27, vD, hcb, e145, r_set_set]
              refine ⟨vp_in_nI (by omega) (by decide), vp_in_nI (by omega) (by decide), vp_in_nI (by omega) (by decide), ?_⟩
              exact ihz (d + 1) _ _ _ (by omega) hh
            refine bkX4_find_190 X _ _ _ ?_
            simp only [zi_push, zi_ldi, zi_ldl, zi_lda, zi_sti, zi_stl, zi_sta, zi_inc, zi_b, zi_d, zi_u, zi_bl, zi_dl, zi_ul, zi_lcmp, zi_i2l, zi_l2i, zi_if, zi_ic, zi_nul, zi_dup, zi_pop, zi_dup_x1, zi_dup2, zi_gf, zi_pf, zi_ia, zi_is, zi_la, zi_lst, zi_aa, zi_as, zi_len, zi_new, zi_na, zi_mx, zi_mn, zi_sw, zi_swx, zi_cv, zi_cs, zi_ci, zi_obj, zi_iret, zi_lret, zi_zret, zi_aret, zi_vret, zm_s1, zm_s2, zm_k, zm_tk, zm_Rt, zm_is, List.getElem?_cons_zero, List.getElem?_cons_succ, List.set_cons_zero, List.set_cons_succ, List.length_cons, List.length_nil, List.map_cons, List.map_nil, List.sum_cons, List.sum_nil, List.nil_append, List.cons_append, Option.toList, Value.category, reduceIte, Nat.reduceAdd, Nat.reduceLeDiff, Nat.reduceLT, Nat.reduceEqDiff, Nat.reduceMul, and_true, true_and, and_self, Nat.zero_add, Nat.add_zero, Nat.le_refl, true_or, or_true, not_true_eq_false, not_false_eq_true, zm_ft_int, zm_ft_long, zm_ft_ref, zm_ft_null, zm_ft_b0, zm_ft_b1, i_2, i_3, i_4, i_10, io_16, io_64, io_33, io_2, cF_ev, cF_bm, va_rf, cH_0, cH_1, cH_2, cH_3, cH_4, cH_5, uT4, uT5, uT6, uT7, uB1, uB2, uB3, uG, uV, mH_0, mH_1, mH_2, mH_3, mH_4, mH_5, mH_6, mH_7, mH_8, mH_9, mH_10, mH_11, mH_12, mH_13, mH_14, mH_15, mH_16, mH_17, mH_18, mH_19, mH_20, mH_21, vI0, vI1, vI2, vI3, vI5, vI17, vI18, vI19, vA4, vA6, vA7, vA8, vA9, vA10, vA11, vA12, vA13, vA14, vA15, vA16, vA20, vA21, vA22, vA23, vA24, vA25, vA26, vA27, vD]
            refine zm_call.of (ctR_badnessOf (tE u) (tN u) (tA' u) hs (r25 u) g (m_sOf i) (s13_in hi13)) (Nat.le_refl _) (Nat.le_refl _) ?_
            simp only [zi_push, zi_ldi, zi_ldl, zi_lda, zi_sti, zi_stl, zi_sta, zi_inc, zi_b, zi_d, zi_u, zi_bl, zi_dl, zi_ul, zi_lcmp, zi_i2l, zi_l2i, zi_if, zi_ic, zi_nul, zi_dup, zi_pop, zi_dup_x1, zi_dup2, zi_gf, zi_pf, zi_ia, zi_is, zi_la, zi_lst, zi_aa, zi_as, zi_len, zi_new, zi_na, zi_mx, zi_mn, zi_sw, zi_swx, zi_cv, zi_cs, zi_ci, zi_obj, zi_iret, zi_lret, zi_zret, zi_aret, zi_vret, zm_s1, zm_s2, zm_k, zm_tk, zm_Rt, zm_is, List.getElem?_cons_zero, List.getElem?_cons_succ, List.set_cons_zero, List.set_cons_succ, List.length_cons, List.length_nil, List.map_cons, List.map_nil, List.sum_cons, List.sum_nil, List.nil_append, List.cons_append, Option.toList, Value.category, reduceIte, Nat.reduceAdd, Nat.reduceLeDiff, Nat.reduceLT, Nat.reduceEqDiff, Nat.reduceMul, and_true, true_and, and_self, Nat.zero_add, Nat.add_zero, Nat.le_refl, true_or, or_true, not_true_eq_false, not_false_eq_true, zm_ft_int, zm_ft_long, zm_ft_ref, zm_ft_null, zm_ft_b0, zm_ft_b1, i_2, i_3, i_4, i_10, io_16, io_64, io_33, io_2, cF_ev, cF_bm, va_rf, cH_0, cH_1, cH_2, cH_3, cH_4, cH_5, uT4, uT5, uT6, uT7, uB1, uB2, uB3, uG, uV, mH_0, mH_1, mH_2, mH_3, mH_4, mH_5, mH_6, mH_7, mH_8, mH_9, mH_10, mH_11, mH_12, mH_13, mH_14, mH_15, mH_16, mH_17, mH_18, mH_19, mH_20, mH_21, vI0, vI1, vI2, vI3, vI5, vI17, vI18, vI19, vA4, vA6, vA7, vA8, vA9, vA10, vA11, vA12, vA13, vA14, vA15, vA16, vA20, vA21, vA22, vA23, vA24, vA25, vA26, vA27, vD, hcb, r_set_D, lg_lt, lg_cmp_ge, e145]
            refine ⟨fun r => ?_, fun r => ⟨vp_in_nI (by omega) (by decide), fun v => ?_, fun v => ⟨vp_in_nI (by omega) (by decide), fun x => ?_, fun x => ?_⟩⟩⟩
            · rw [if_pos r] at g2
              exact ihz (d + 1) _ _ _ (by omega) g2
            · rw [if_neg r, if_pos v] at g2
              exact k233 g2
            · rw [if_neg r, if_neg v, if_pos x] at g2
              exact ihz (d + 1) _ _ _ (by omega) g2
            · rw [if_neg r, if_neg v, if_neg x] at g2
              exact k233 g2
          have k162 : ∀ y : Int32, (¬ y < (if cM C b 2 = 0 then -48 else -24) + nI d) → zm_V w Γ 162 [some (.ref q), some (.int (nI b)), some (.int J), some (.int (nI i)), some (.int (m_sOf i)), some (.int ((if cM C b 2 = 0 then -48 else -24) + nI d)), r6, r7, none] [.int y, .int ((if cM C b 2 = 0 then -48 else -24) + nI d)] (mH f q (r_set M b u), n) := by
            intro y hy
            refine bkX4_find_162 X _ _ _ ?_
            simp only [zi_push, zi_ldi, zi_ldl, zi_lda, zi_sti, zi_stl, zi_sta, zi_inc, zi_b, zi_d, zi_u, zi_bl, zi_dl, zi_ul, zi_lcmp, zi_i2l, zi_l2i, zi_if, zi_ic, zi_nul, zi_dup, zi_pop, zi_dup_x1, zi_dup2, zi_gf, zi_pf, zi_ia, zi_is, zi_la, zi_lst, zi_aa, zi_as, zi_len, zi_new, zi_na, zi_mx, zi_mn, zi_sw, zi_swx, zi_cv, zi_cs, zi_ci, zi_obj, zi_iret, zi_lret, zi_zret, zi_aret, zi_vret, zm_s1, zm_s2, zm_k, zm_tk, zm_Rt, zm_is, List.getElem?_cons_zero, List.getElem?_cons_succ, List.set_cons_zero, List.set_cons_succ, List.length_cons, List.length_nil, List.map_cons, List.map_nil, List.sum_cons, List.sum_nil, List.nil_append, List.cons_append, Option.toList, Value.category, reduceIte, Nat.reduceAdd, Nat.reduceLeDiff, Nat.reduceLT, Nat.reduceEqDiff, Nat.reduceMul, and_true, true_and, and_self, Nat.zero_add, Nat.add_zero, Nat.le_refl, true_or, or_true, not_true_eq_false, not_false_eq_true, zm_ft_int, zm_ft_long, zm_ft_ref, zm_ft_null, zm_ft_b0, zm_ft_b1, i_2, i_3, i_4, i_10, io_16, io_64, io_33, io_2, cF_ev, cF_bm, va_rf, cH_0, cH_1, cH_2, cH_3, cH_4, cH_5, uT4, uT5, uT6, uT7, uB1, uB2, uB3, uG, uV, mH_0, mH_1, mH_2, mH_3, mH_4, mH_5, mH_6, mH_7, mH_8, mH_9, mH_10, mH_11, mH_12, mH_13, mH_14, mH_15, mH_16, mH_17, mH_18, mH_19, mH_20, mH_21, vI0, vI1, vI2, vI3, vI5, vI17, vI18, vI19, vA4, vA6, vA7, vA8, vA9, vA10, vA11, vA12, vA13, vA14, vA15, vA16, vA20, vA21, vA22, vA23, vA24, vA25, vA26, vA27, vD, hcb, r22]
            refine ⟨fun r => absurd r hy, fun _ => ⟨vp_in_nI (by omega) (by decide), fun r => k190 _ ?_, fun r => ⟨vp_in_nI (by omega) (by decide), k190 _ ?_⟩⟩⟩
            · rw [m_bg, if_pos r, m_step, if_pos r, if_pos r, Int32.one_mul]
            · rcases hJ with h | ⟨h, h'⟩
              · exact absurd h r
              · rw [← h', m_step, if_neg r, if_neg r]
                grind
          refine bkX4_find_145 X _ _ _ ?_
          simp only [zi_push, zi_ldi, zi_ldl, zi_lda, zi_sti, zi_stl, zi_sta, zi_inc, zi_b, zi_d, zi_u, zi_bl, zi_dl, zi_ul, zi_lcmp, zi_i2l, zi_l2i, zi_if, zi_ic, zi_nul, zi_dup, zi_pop, zi_dup_x1, zi_dup2, zi_gf, zi_pf, zi_ia, zi_is, zi_la, zi_lst, zi_aa, zi_as, zi_len, zi_new, zi_na, zi_mx, zi_mn, zi_sw, zi_swx, zi_cv, zi_cs, zi_ci, zi_obj, zi_iret, zi_lret, zi_zret, zi_aret, zi_vret, zm_s1, zm_s2, zm_k, zm_tk, zm_Rt, zm_is, List.getElem?_cons_zero, List.getElem?_cons_succ, List.set_cons_zero, List.set_cons_succ, List.length_cons, List.length_nil, List.map_cons, List.map_nil, List.sum_cons, List.sum_nil, List.nil_append, List.cons_append, Option.toList, Value.category, reduceIte, Nat.reduceAdd, Nat.reduceLeDiff, Nat.reduceLT, Nat.reduceEqDiff, Nat.reduceMul, and_true, true_and, and_self, Nat.zero_add, Nat.add_zero, Nat.le_refl, true_or, or_true, not_true_eq_false, not_false_eq_true, zm_ft_int, zm_ft_long, zm_ft_ref, zm_ft_null, zm_ft_b0, zm_ft_b1, i_2, i_3, i_4, i_10, io_16, io_64, io_33, io_2, cF_ev, cF_bm, va_rf, cH_0, cH_1, cH_2, cH_3, cH_4, cH_5, uT4, uT5, uT6, uT7, uB1, uB2, uB3, uG, uV, mH_0, mH_1, mH_2, mH_3, mH_4, mH_5, mH_6, mH_7, mH_8, mH_9, mH_10, mH_11, mH_12, mH_13, mH_14, mH_15, mH_16, mH_17, mH_18, mH_19, mH_20, mH_21, vI0, vI1, vI2, vI3, vI5, vI17, vI18, vI19, vA4, vA6, vA7, vA8, vA9, vA10, vA11, vA12, vA13, vA14, vA15, vA16, vA20, vA21, vA22, vA23, vA24, vA25, vA26, vA27, vD, hcb, r22]
          refine ⟨vp_in_nI (by omega) (by decide), fun r => k162 0 ?_, fun r => k162 12 ?_⟩
          · have : d ≤ 48 := by rw [m_steps, if_pos r] at g1; omega
            rw [if_pos r, show (-48 : Int32) = zI (-48) from rfl, show (0 : Int32) = zI 0 from rfl, nI_zI, zI_add, zI_lt (by omega) (by omega) (by omega) (by omega)]
            omega
          · have : d ≤ 36 := by rw [m_steps, if_neg r] at g1; omega
            rw [if_neg r, show (-24 : Int32) = zI (-24) from rfl, show (12 : Int32) = zI 12 from rfl, nI_zI, zI_add, zI_lt (by omega) (by omega) (by omega) (by omega)]
            omega
      have k125 : ∀ s : Int32, s = m_sOf i → zm_V w Γ 125 [some (.ref q), some (.int (nI b)), some (.int J), some (.int (nI i)), r4, r5, r6, r7, none] [.int s] (mH f q (r_set M b t), n) := by
        intro s hs'
        refine bkX4_find_125 X _ _ _ ?_
        simp only [zi_push, zi_ldi, zi_ldl, zi_lda, zi_sti, zi_stl, zi_sta, zi_inc, zi_b, zi_d, zi_u, zi_bl, zi_dl, zi_ul, zi_lcmp, zi_i2l, zi_l2i, zi_if, zi_ic, zi_nul, zi_dup, zi_pop, zi_dup_x1, zi_dup2, zi_gf, zi_pf, zi_ia, zi_is, zi_la, zi_lst, zi_aa, zi_as, zi_len, zi_new, zi_na, zi_mx, zi_mn, zi_sw, zi_swx, zi_cv, zi_cs, zi_ci, zi_obj, zi_iret, zi_lret, zi_zret, zi_aret, zi_vret, zm_s1, zm_s2, zm_k, zm_tk, zm_Rt, zm_is, List.getElem?_cons_zero, List.getElem?_cons_succ, List.set_cons_zero, List.set_cons_succ, List.length_cons, List.length_nil, List.map_cons, List.map_nil, List.sum_cons, List.sum_nil, List.nil_append, List.cons_append, Option.toList, Value.category, reduceIte, Nat.reduceAdd, Nat.reduceLeDiff, Nat.reduceLT, Nat.reduceEqDiff, Nat.reduceMul, and_true, true_and, and_self, Nat.zero_add, Nat.add_zero, Nat.le_refl, true_or, or_true, not_true_eq_false, not_false_eq_true, zm_ft_int, zm_ft_long, zm_ft_ref, zm_ft_null, zm_ft_b0, zm_ft_b1, i_2, i_3, i_4, i_10, io_16, io_64, io_33, io_2, cF_ev, cF_bm, va_rf, cH_0, cH_1, cH_2, cH_3, cH_4, cH_5, uT4, uT5, uT6, uT7, uB1, uB2, uB3, uG, uV, mH_0, mH_1, mH_2, mH_3, mH_4, mH_5, mH_6, mH_7, mH_8, mH_9, mH_10, mH_11, mH_12, mH_13, mH_14, mH_15, mH_16, mH_17, mH_18, mH_19, mH_20, mH_21, vI0, vI1, vI2, vI3, vI5, vI17, vI18, vI19, vA4, vA6, vA7, vA8, vA9, vA10, vA11, vA12, vA13, vA14, vA15, vA16, vA20, vA21, vA22, vA23, vA24, vA25, vA26, vA27, vD, hcb, r22]
        rw [hs']
        refine ⟨vp_in_nI (by omega) (by decide), fun r => ?_, fun r => ?_⟩
        · have := inner (m_steps C b + 1) 0 t r6 r7 (by omega) rfl
          rw [if_pos r] at this
          exact this
        · have := inner (m_steps C b + 1) 0 t r6 r7 (by omega) rfl
          rw [if_neg r] at this
          exact this
      have k103 : ∀ c : Nat, i < c → c < 2 ^ 31 → zm_V w Γ 103 [some (.ref q), some (.int (nI b)), some (.int J), some (.int (nI i)), r4, r5, r6, r7, none] [.int (nI c), .int (nI i)] (mH f q (r_set M b t), n) := by
        intro c hc hc2
        refine bkX4_find_103 X _ _ _ ?_
        simp only [zi_push, zi_ldi, zi_ldl, zi_lda, zi_sti, zi_stl, zi_sta, zi_inc, zi_b, zi_d, zi_u, zi_bl, zi_dl, zi_ul, zi_lcmp, zi_i2l, zi_l2i, zi_if, zi_ic, zi_nul, zi_dup, zi_pop, zi_dup_x1, zi_dup2, zi_gf, zi_pf, zi_ia, zi_is, zi_la, zi_lst, zi_aa, zi_as, zi_len, zi_new, zi_na, zi_mx, zi_mn, zi_sw, zi_swx, zi_cv, zi_cs, zi_ci, zi_obj, zi_iret, zi_lret, zi_zret, zi_aret, zi_vret, zm_s1, zm_s2, zm_k, zm_tk, zm_Rt, zm_is, List.getElem?_cons_zero, List.getElem?_cons_succ, List.set_cons_zero, List.set_cons_succ, List.length_cons, List.length_nil, List.map_cons, List.map_nil, List.sum_cons, List.sum_nil, List.nil_append, List.cons_append, Option.toList, Value.category, reduceIte, Nat.reduceAdd, Nat.reduceLeDiff, Nat.reduceLT, Nat.reduceEqDiff, Nat.reduceMul, and_true, true_and, and_self, Nat.zero_add, Nat.add_zero, Nat.le_refl, true_or, or_true, not_true_eq_false, not_false_eq_true, zm_ft_int, zm_ft_long, zm_ft_ref, zm_ft_null, zm_ft_b0, zm_ft_b1, i_2, i_3, i_4, i_10, io_16, io_64, io_33, io_2, cF_ev, cF_bm, va_rf, cH_0, cH_1, cH_2, cH_3, cH_4, cH_5, uT4, uT5, uT6, uT7, uB1, uB2, uB3, uG, uV, mH_0, mH_1, mH_2, mH_3, mH_4, mH_5, mH_6, mH_7, mH_8, mH_9, mH_10, mH_11, mH_12, mH_13, mH_14, mH_15, mH_16, mH_17, mH_18, mH_19, mH_20, mH_21, vI0, vI1, vI2, vI3, vI5, vI17, vI18, vI19, vA4, vA6, vA7, vA8, vA9, vA10, vA11, vA12, vA13, vA14, vA15, vA16, vA20, vA21, vA22, vA23, vA24, vA25, vA26, vA27, vD]
        refine ⟨fun r => absurd r (nI_ge (by omega) (by omega)), fun _ => ⟨fun r => k125 _ ((s13 ⟨i, hi13⟩).1 r), fun r => k125 _ ((s13 ⟨i, hi13⟩).2 r)⟩⟩
      refine bkX4_find_86 X _ _ _ ?_
      simp only [zi_push, zi_ldi, zi_ldl, zi_lda, zi_sti, zi_stl, zi_sta, zi_inc, zi_b, zi_d, zi_u, zi_bl, zi_dl, zi_ul, zi_lcmp, zi_i2l, zi_l2i, zi_if, zi_ic, zi_nul, zi_dup, zi_pop, zi_dup_x1, zi_dup2, zi_gf, zi_pf, zi_ia, zi_is, zi_la, zi_lst, zi_aa, zi_as, zi_len, zi_new, zi_na, zi_mx, zi_mn, zi_sw, zi_swx, zi_cv, zi_cs, zi_ci, zi_obj, zi_iret, zi_lret, zi_zret, zi_aret, zi_vret, zm_s1, zm_s2, zm_k, zm_tk, zm_Rt, zm_is, List.getElem?_cons_zero, List.getElem?_cons_succ, List.set_cons_zero, List.set_cons_succ, List.length_cons, List.length_nil, List.map_cons, List.map_nil, List.sum_cons, List.sum_nil, List.nil_append, List.cons_append, Option.toList, Value.category, reduceIte, Nat.reduceAdd, Nat.reduceLeDiff, Nat.reduceLT, Nat.reduceEqDiff, Nat.reduceMul, and_true, true_and, and_self, Nat.zero_add, Nat.add_zero, Nat.le_refl, true_or, or_true, not_true_eq_false, not_false_eq_true, zm_ft_int, zm_ft_long, zm_ft_ref, zm_ft_null, zm_ft_b0, zm_ft_b1, i_2, i_3, i_4, i_10, io_16, io_64, io_33, io_2, cF_ev, cF_bm, va_rf, cH_0, cH_1, cH_2, cH_3, cH_4, cH_5, uT4, uT5, uT6, uT7, uB1, uB2, uB3, uG, uV, mH_0, mH_1, mH_2, mH_3, mH_4, mH_5, mH_6, mH_7, mH_8, mH_9, mH_10, mH_11, mH_12, mH_13, mH_14, mH_15, mH_16, mH_17, mH_18, mH_19, mH_20, mH_21, vI0, vI1, vI2, vI3, vI5, vI17, vI18, vI19, vA4, vA6, vA7, vA8, vA9, vA10, vA11, vA12, vA13, vA14, vA15, vA16, vA20, vA21, vA22, vA23, vA24, vA25, vA26, vA27, vD, hcb, r26]
      refine ⟨vp_in_nI (by omega) (by decide), fun r => ?_, fun r => ?_⟩
      · refine k103 1 ?_ (by decide)
        have : m_last C b = 0 := by rw [m_last, if_neg (by rw [r]; decide)]
        omega
      · exact k103 13 hi13 (by decide)
  -- behind the first loop
  have start : ∀ (J : Int32) (k : Int32) (r4 : Option Value), (cM C b 2 = 0 ∨ ((cM C b 2 = 1 ∨ cM C b 2 = -1) ∧ cM C b 2 * J - 24 * cM C b 2 = m_bg C b (csz C b))) → zm_V w Γ 86 [some (.ref q), some (.int (nI b)), some (.int J), some (.int 0), r4, none, none, none, none] [] (mH f q (tD M b (-1)), n) := by
    intro J k r4 hJ
    rw [r_set_0]
    exact outer J hJ (m_last C b + 1) 0 _ _ _ _ _ (by omega) rfl
  refine bkX4_find_0 X [some (.ref q), some (.int (nI b)), none, none, none, none, none, none, none] [] _ ?_
  simp only [zi_push, zi_ldi, zi_ldl, zi_lda, zi_sti, zi_stl, zi_sta, zi_inc, zi_b, zi_d, zi_u, zi_bl, zi_dl, zi_ul, zi_lcmp, zi_i2l, zi_l2i, zi_if, zi_ic, zi_nul, zi_dup, zi_pop, zi_dup_x1, zi_dup2, zi_gf, zi_pf, zi_ia, zi_is, zi_la, zi_lst, zi_aa, zi_as, zi_len, zi_new, zi_na, zi_mx, zi_mn, zi_sw, zi_swx, zi_cv, zi_cs, zi_ci, zi_obj, zi_iret, zi_lret, zi_zret, zi_aret, zi_vret, zm_s1, zm_s2, zm_k, zm_tk, zm_Rt, zm_is, List.getElem?_cons_zero, List.getElem?_cons_succ, List.set_cons_zero, List.set_cons_succ, List.length_cons, List.length_nil, List.map_cons, List.map_nil, List.sum_cons, List.sum_nil, List.nil_append, List.cons_append, Option.toList, Value.category, reduceIte, Nat.reduceAdd, Nat.reduceLeDiff, Nat.reduceLT, Nat.reduceEqDiff, Nat.reduceMul, and_true, true_and, and_self, Nat.zero_add, Nat.add_zero, Nat.le_refl, true_or, or_true, not_true_eq_false, not_false_eq_true, zm_ft_int, zm_ft_long, zm_ft_ref, zm_ft_null, zm_ft_b0, zm_ft_b1, i_2, i_3, i_4, i_10, io_16, io_64, io_33, io_2, cF_ev, cF_bm, va_rf, cH_0, cH_1, cH_2, cH_3, cH_4, cH_5, uT4, uT5, uT6, uT7, uB1, uB2, uB3, uG, uV, mH_0, mH_1, mH_2, mH_3, mH_4, mH_5, mH_6, mH_7, mH_8, mH_9, mH_10, mH_11, mH_12, mH_13, mH_14, mH_15, mH_16, mH_17, mH_18, mH_19, mH_20, mH_21, vI0, vI1, vI2, vI3, vI5, vI17, vI18, vI19, vA4, vA6, vA7, vA8, vA9, vA10, vA11, vA12, vA13, vA14, vA15, vA16, vA20, vA21, vA22, vA23, vA24, vA25, vA26, vA27, vD]
  rcases ha.2.1 with h0 | hw
  · refine bkX4_find_4 X _ _ _ ?_
    simp only [zi_push, zi_ldi, zi_ldl, zi_lda, zi_sti, zi_stl, zi_sta, zi_inc, zi_b, zi_d, zi_u, zi_bl, zi_dl, zi_ul, zi_lcmp, zi_i2l, zi_l2i, zi_if, zi_ic, zi_nul, zi_dup, zi_pop, zi_dup_x1, zi_dup2, zi_gf, zi_pf, zi_ia, zi_is, zi_la, zi_lst, zi_aa, zi_as, zi_len, zi_new, zi_na, zi_mx, zi_mn, zi_sw, zi_swx, zi_cv, zi_cs, zi_ci, zi_obj, zi_iret, zi_lret, zi_zret, zi_aret, zi_vret, zm_s1, zm_s2, zm_k, zm_tk, zm_Rt, zm_is, List.getElem?_cons_zero, List.getElem?_cons_succ, List.set_cons_zero, List.set_cons_succ, List.length_cons, List.length_nil, List.map_cons, List.map_nil, List.sum_cons, List.sum_nil, List.nil_append, List.cons_append, Option.toList, Value.category, reduceIte, Nat.reduceAdd, Nat.reduceLeDiff, Nat.reduceLT, Nat.reduceEqDiff, Nat.reduceMul, and_true, true_and, and_self, Nat.zero_add, Nat.add_zero, Nat.le_refl, true_or, or_true, not_true_eq_false, not_false_eq_true, zm_ft_int, zm_ft_long, zm_ft_ref, zm_ft_null, zm_ft_b0, zm_ft_b1, i_2, i_3, i_4, i_10, io_16, io_64, io_33, io_2, cF_ev, cF_bm, va_rf, cH_0, cH_1, cH_2, cH_3, cH_4, cH_5, uT4, uT5, uT6, uT7, uB1, uB2, uB3, uG, uV, mH_0, mH_1, mH_2, mH_3, mH_4, mH_5, mH_6, mH_7, mH_8, mH_9, mH_10, mH_11, mH_12, mH_13, mH_14, mH_15, mH_16, mH_17, mH_18, mH_19, mH_20, mH_21, vI0, vI1, vI2, vI3, vI5, vI17, vI18, vI19, vA4, vA6, vA7, vA8, vA9, vA10, vA11, vA12, vA13, vA14, vA15, vA16, vA20, vA21, vA22, vA23, vA24, vA25, vA26, vA27, vD, hcb, hb.2.2.1, ha.1]
    refine ⟨vp_in_nI (by omega) (by decide), fun r => ⟨vp_in_nI (by omega) (by decide), start 0 0 _ (Or.inl h0)⟩, fun _ => ⟨vp_in_nI (by omega) (by decide), fun r => ⟨vp_in_nI (by omega) (by decide), start 0 0 _ (Or.inl h0)⟩, fun r => absurd h0 r⟩⟩
  · have hw0 : ¬ cM C b 2 = 0 := by
      rcases hw with h | h <;> rw [h] <;> decide
    have ww : cM C b 2 * cM C b 2 = 1 := by
      rcases hw with h | h <;> rw [h] <;> decide
    have step : ∀ (k : Nat) (J : Int32) (r4 : Option Value), k < csz C b → zm_V w Γ 4 [some (.ref q), some (.int (nI b)), some (.int (if k = 0 then cM C b 2 * m_lh0 C b k else if cM C b 2 * m_lh0 C b k ≤ J then J else cM C b 2 * m_lh0 C b k)), some (.int (nI (k + 1))), some (.int (cM C b 2 * m_lh0 C b k)), none, none, none, none] [] (mH f q M, n) → zm_V w Γ 4 [some (.ref q), some (.int (nI b)), some (.int J), some (.int (nI k)), r4, none, none, none, none] [] (mH f q M, n) := by
      intro k J r4 hk hnext
      obtain ⟨g1, g2, g3, g4⟩ := hb.2.2.2 k hk
      have h64 : cN C b k < 64 := by have := he.1; omega
      refine bkX4_find_4 X _ _ _ ?_
      simp only [zi_push, zi_ldi, zi_ldl, zi_lda, zi_sti, zi_stl, zi_sta, zi_inc, zi_b, zi_d, zi_u, zi_bl, zi_dl, zi_ul, zi_lcmp, zi_i2l, zi_l2i, zi_if, zi_ic, zi_nul, zi_dup, zi_pop, zi_dup_x1, zi_dup2, zi_gf, zi_pf, zi_ia, zi_is, zi_la, zi_lst, zi_aa, zi_as, zi_len, zi_new, zi_na, zi_mx, zi_mn, zi_sw, zi_swx, zi_cv, zi_cs, zi_ci, zi_obj, zi_iret, zi_lret, zi_zret, zi_aret, zi_vret, zm_s1, zm_s2, zm_k, zm_tk, zm_Rt, zm_is, List.getElem?_cons_zero, List.getElem?_cons_succ, List.set_cons_zero, List.set_cons_succ, List.length_cons, List.length_nil, List.map_cons, List.map_nil, List.sum_cons, List.sum_nil, List.nil_append, List.cons_append, Option.toList, Value.category, reduceIte, Nat.reduceAdd, Nat.reduceLeDiff, Nat.reduceLT, Nat.reduceEqDiff, Nat.reduceMul, and_true, true_and, and_self, Nat.zero_add, Nat.add_zero, Nat.le_refl, true_or, or_true, not_true_eq_false, not_false_eq_true, zm_ft_int, zm_ft_long, zm_ft_ref, zm_ft_null, zm_ft_b0, zm_ft_b1, i_2, i_3, i_4, i_10, io_16, io_64, io_33, io_2, cF_ev, cF_bm, va_rf, cH_0, cH_1, cH_2, cH_3, cH_4, cH_5, uT4, uT5, uT6, uT7, uB1, uB2, uB3, uG, uV, mH_0, mH_1, mH_2, mH_3, mH_4, mH_5, mH_6, mH_7, mH_8, mH_9, mH_10, mH_11, mH_12, mH_13, mH_14, mH_15, mH_16, mH_17, mH_18, mH_19, mH_20, mH_21, vI0, vI1, vI2, vI3, vI5, vI17, vI18, vI19, vA4, vA6, vA7, vA8, vA9, vA10, vA11, vA12, vA13, vA14, vA15, vA16, vA20, vA21, vA22, vA23, vA24, vA25, vA26, vA27, vD, hcb, hb.2.2.1, ha.1]
      refine ⟨vp_in_nI (by omega) (by decide), fun r => absurd r (nI_ge (by omega) (by omega)), fun _ => ⟨vp_in_nI (by omega) (by decide), fun r => absurd r hw0, fun _ => ⟨vp_in_nI (by omega) (by decide), ?_⟩⟩⟩
      refine zm_call.of (ctR_nearAt he hb ha hk) (Nat.le_refl _) (Nat.le_refl _) ?_
      simp only [zi_push, zi_ldi, zi_ldl, zi_lda, zi_sti, zi_stl, zi_sta, zi_inc, zi_b, zi_d, zi_u, zi_bl, zi_dl, zi_ul, zi_lcmp, zi_i2l, zi_l2i, zi_if, zi_ic, zi_nul, zi_dup, zi_pop, zi_dup_x1, zi_dup2, zi_gf, zi_pf, zi_ia, zi_is, zi_la, zi_lst, zi_aa, zi_as, zi_len, zi_new, zi_na, zi_mx, zi_mn, zi_sw, zi_swx, zi_cv, zi_cs, zi_ci, zi_obj, zi_iret, zi_lret, zi_zret, zi_aret, zi_vret, zm_s1, zm_s2, zm_k, zm_tk, zm_Rt, zm_is, List.getElem?_cons_zero, List.getElem?_cons_succ, List.set_cons_zero, List.set_cons_succ, List.length_cons, List.length_nil, List.map_cons, List.map_nil, List.sum_cons, List.sum_nil, List.nil_append, List.cons_append, Option.toList, Value.category, reduceIte, Nat.reduceAdd, Nat.reduceLeDiff, Nat.reduceLT, Nat.reduceEqDiff, Nat.reduceMul, and_true, true_and, and_self, Nat.zero_add, Nat.add_zero, Nat.le_refl, true_or, or_true, not_true_eq_false, not_false_eq_true, zm_ft_int, zm_ft_long, zm_ft_ref, zm_ft_null, zm_ft_b0, zm_ft_b1, i_2, i_3, i_4, i_10, io_16, io_64, io_33, io_2, cF_ev, cF_bm, va_rf, cH_0, cH_1, cH_2, cH_3, cH_4, cH_5, uT4, uT5, uT6, uT7, uB1, uB2, uB3, uG, uV, mH_0, mH_1, mH_2, mH_3, mH_4, mH_5, mH_6, mH_7, mH_8, mH_9, mH_10, mH_11, mH_12, mH_13, mH_14, mH_15, mH_16, mH_17, mH_18, mH_19, mH_20, mH_21, vI0, vI1, vI2, vI3, vI5, vI17, vI18, vI19, vA4, vA6, vA7, vA8, vA9, vA10, vA11, vA12, vA13, vA14, vA15, vA16, vA20, vA21, vA22, vA23, vA24, vA25, vA26, vA27, vD]
      refine zm_call.of (ctR_noteAt hb hk) (Nat.le_refl _) (Nat.le_refl _) ?_
      simp only [zi_push, zi_ldi, zi_ldl, zi_lda, zi_sti, zi_stl, zi_sta, zi_inc, zi_b, zi_d, zi_u, zi_bl, zi_dl, zi_ul, zi_lcmp, zi_i2l, zi_l2i, zi_if, zi_ic, zi_nul, zi_dup, zi_pop, zi_dup_x1, zi_dup2, zi_gf, zi_pf, zi_ia, zi_is, zi_la, zi_lst, zi_aa, zi_as, zi_len, zi_new, zi_na, zi_mx, zi_mn, zi_sw, zi_swx, zi_cv, zi_cs, zi_ci, zi_obj, zi_iret, zi_lret, zi_zret, zi_aret, zi_vret, zm_s1, zm_s2, zm_k, zm_tk, zm_Rt, zm_is, List.getElem?_cons_zero, List.getElem?_cons_succ, List.set_cons_zero, List.set_cons_succ, List.length_cons, List.length_nil, List.map_cons, List.map_nil, List.sum_cons, List.sum_nil, List.nil_append, List.cons_append, Option.toList, Value.category, reduceIte, Nat.reduceAdd, Nat.reduceLeDiff, Nat.reduceLT, Nat.reduceEqDiff, Nat.reduceMul, and_true, true_and, and_self, Nat.zero_add, Nat.add_zero, Nat.le_refl, true_or, or_true, not_true_eq_false, not_false_eq_true, zm_ft_int, zm_ft_long, zm_ft_ref, zm_ft_null, zm_ft_b0, zm_ft_b1, i_2, i_3, i_4, i_10, io_16, io_64, io_33, io_2, cF_ev, cF_bm, va_rf, cH_0, cH_1, cH_2, cH_3, cH_4, cH_5, uT4, uT5, uT6, uT7, uB1, uB2, uB3, uG, uV, mH_0, mH_1, mH_2, mH_3, mH_4, mH_5, mH_6, mH_7, mH_8, mH_9, mH_10, mH_11, mH_12, mH_13, mH_14, mH_15, mH_16, mH_17, mH_18, mH_19, mH_20, mH_21, vI0, vI1, vI2, vI3, vI5, vI17, vI18, vI19, vA4, vA6, vA7, vA8, vA9, vA10, vA11, vA12, vA13, vA14, vA15, vA16, vA20, vA21, vA22, vA23, vA24, vA25, vA26, vA27, vD]
      refine zm_call.of (ctR_more h64 (he.2.2 _ g2)) (Nat.le_refl _) (Nat.le_refl _) ?_
      simp only [zi_push, zi_ldi, zi_ldl, zi_lda, zi_sti, zi_stl, zi_sta, zi_inc, zi_b, zi_d, zi_u, zi_bl, zi_dl, zi_ul, zi_lcmp, zi_i2l, zi_l2i, zi_if, zi_ic, zi_nul, zi_dup, zi_pop, zi_dup_x1, zi_dup2, zi_gf, zi_pf, zi_ia, zi_is, zi_la, zi_lst, zi_aa, zi_as, zi_len, zi_new, zi_na, zi_mx, zi_mn, zi_sw, zi_swx, zi_cv, zi_cs, zi_ci, zi_obj, zi_iret, zi_lret, zi_zret, zi_aret, zi_vret, zm_s1, zm_s2, zm_k, zm_tk, zm_Rt, zm_is, List.getElem?_cons_zero, List.getElem?_cons_succ, List.set_cons_zero, List.set_cons_succ, List.length_cons, List.length_nil, List.map_cons, List.map_nil, List.sum_cons, List.sum_nil, List.nil_append, List.cons_append, Option.toList, Value.category, reduceIte, Nat.reduceAdd, Nat.reduceLeDiff, Nat.reduceLT, Nat.reduceEqDiff, Nat.reduceMul, and_true, true_and, and_self, Nat.zero_add, Nat.add_zero, Nat.le_refl, true_or, or_true, not_true_eq_false, not_false_eq_true, zm_ft_int, zm_ft_long, zm_ft_ref, zm_ft_null, zm_ft_b0, zm_ft_b1, i_2, i_3, i_4, i_10, io_16, io_64, io_33, io_2, cF_ev, cF_bm, va_rf, cH_0, cH_1, cH_2, cH_3, cH_4, cH_5, uT4, uT5, uT6, uT7, uB1, uB2, uB3, uG, uV, mH_0, mH_1, mH_2, mH_3, mH_4, mH_5, mH_6, mH_7, mH_8, mH_9, mH_10, mH_11, mH_12, mH_13, mH_14, mH_15, mH_16, mH_17, mH_18, mH_19, mH_20, mH_21, vI0, vI1, vI2, vI3, vI5, vI17, vI18, vI19, vA4, vA6, vA7, vA8, vA9, vA10, vA11, vA12, vA13, vA14, vA15, vA16, vA20, vA21, vA22, vA23, vA24, vA25, vA26, vA27, vD, nI_1]
      have e : cM C b 2 * cE C (cN C b k) 13 + 10 + e_more C (cN C b k) = cM C b 2 * m_lh0 C b k := by
        unfold m_lh0
        rw [(ha.2.2 k hk).2.2.2]
        grind
      rw [e]
      have e0 : nI k = 0 ↔ k = 0 := nI_eq0 (by omega)
      rw [e0]
      refine ⟨fun r => ?_, fun r => ⟨fun v => ?_, fun v => ?_⟩⟩
      · rw [if_pos r] at hnext
        exact hnext
      · rw [if_neg r, if_pos v] at hnext
        exact hnext
      · rw [if_neg r, if_neg v] at hnext
        exact hnext
    have key : ∀ (m k : Nat) (x : Int32) (r4 : Option Value), 1 ≤ k → k + m = csz C b → inR x (-100) 100 → itr (m_lhF C b) m k x = itr (m_lhF C b) (csz C b - 1) 1 (m_lh0 C b 0) → zm_V w Γ 4 [some (.ref q), some (.int (nI b)), some (.int (cM C b 2 * x)), some (.int (nI k)), r4, none, none, none, none] [] (mH f q M, n) := by
      intro m
      induction m with
      | zero =>
        intro k x r4 h1 h2 h3 h4
        refine bkX4_find_4 X _ _ _ ?_
        simp only [zi_push, zi_ldi, zi_ldl, zi_lda, zi_sti, zi_stl, zi_sta, zi_inc, zi_b, zi_d, zi_u, zi_bl, zi_dl, zi_ul, zi_lcmp, zi_i2l, zi_l2i, zi_if, zi_ic, zi_nul, zi_dup, zi_pop, zi_dup_x1, zi_dup2, zi_gf, zi_pf, zi_ia, zi_is, zi_la, zi_lst, zi_aa, zi_as, zi_len, zi_new, zi_na, zi_mx, zi_mn, zi_sw, zi_swx, zi_cv, zi_cs, zi_ci, zi_obj, zi_iret, zi_lret, zi_zret, zi_aret, zi_vret, zm_s1, zm_s2, zm_k, zm_tk, zm_Rt, zm_is, List.getElem?_cons_zero, List.getElem?_cons_succ, List.set_cons_zero, List.set_cons_succ, List.length_cons, List.length_nil, List.map_cons, List.map_nil, List.sum_cons, List.sum_nil, List.nil_append, List.cons_append, Option.toList, Value.category, reduceIte, Nat.reduceAdd, Nat.reduceLeDiff, Nat.reduceLT, Nat.reduceEqDiff, Nat.reduceMul, and_true, true_and, and_self, Nat.zero_add, Nat.add_zero, Nat.le_refl, true_or, or_true, not_true_eq_false, not_false_eq_true, zm_ft_int, zm_ft_long, zm_ft_ref, zm_ft_null, zm_ft_b0, zm_ft_b1, i_2, i_3, i_4, i_10, io_16, io_64, io_33, io_2, cF_ev, cF_bm, va_rf, cH_0, cH_1, cH_2, cH_3, cH_4, cH_5, uT4, uT5, uT6, uT7, uB1, uB2, uB3, uG, uV, mH_0, mH_1, mH_2, mH_3, mH_4, mH_5, mH_6, mH_7, mH_8, mH_9, mH_10, mH_11, mH_12, mH_13, mH_14, mH_15, mH_16, mH_17, mH_18, mH_19, mH_20, mH_21, vI0, vI1, vI2, vI3, vI5, vI17, vI18, vI19, vA4, vA6, vA7, vA8, vA9, vA10, vA11, vA12, vA13, vA14, vA15, vA16, vA20, vA21, vA22, vA23, vA24, vA25, vA26, vA27, vD, hcb, hb.2.2.1, ha.1]
        refine ⟨vp_in_nI (by omega) (by decide), fun r => ⟨vp_in_nI (by omega) (by decide), start _ 0 _ (Or.inr ⟨hw, ?_⟩)⟩, fun r => absurd (nI_le (by omega) (by omega)) r⟩
        rw [itr] at h4
        rw [m_bg, if_neg hw0, ← h4, ← Int32.mul_assoc, ww, Int32.one_mul]
      | succ m ih =>
        intro k x r4 h1 h2 h3 h4
        have hk : k < csz C b := by omega
        have hy := lh_in he hb ha hk hw
        refine step k _ _ hk ?_
        rw [if_neg (by omega), lhF_eq hw h3 hy]
        rw [itr] at h4
        refine ih (k + 1) _ _ (by omega) (by omega) ?_ h4
        exact inR_if (inR_if hy h3 _) (inR_if hy h3 _) _
    refine step 0 0 none (by omega) ?_
    rw [if_pos rfl]
    exact key (csz C b - 1) 1 _ _ (by omega) (by omega) (lh_in he hb ha (by omega) hw) rfl
end
