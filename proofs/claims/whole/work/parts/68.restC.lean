theorem fm1301 : ∀ k : Fin 1301, (zI ((k.val : Int) - 650) - zI ((k.val : Int) - 650) / 4 * 4 + 4) - (zI ((k.val : Int) - 650) - zI ((k.val : Int) - 650) / 4 * 4 + 4) / 4 * 4 = i_fm (zI ((k.val : Int) - 650)) 4 := by decide +kernel
theorem fm_eq {x : Int32} (h : inR x (-650) 650) : (x - x / 4 * 4 + 4) - (x - x / 4 * 4 + 4) / 4 * 4 = i_fm x 4 := by
  obtain ⟨k, h1, h2, rfl⟩ := h
  have h := fm1301 ⟨(k + 650).toNat, by omega⟩
  have e : (((k + 650).toNat : Nat) : Int) - 650 = k := by omega
  simp only [e] at h
  exact h
theorem rd136 : ∀ (a : Fin 136) (B : Fin 15), -200 ≤ (c_rd (nI a.val) (B.val + 1)).toInt ∧ (c_rd (nI a.val) (B.val + 1)).toInt ≤ 200 := by decide +kernel
theorem rdA_in {a B : Nat} (ha : a < 136) (h1 : 1 ≤ B) (h2 : B ≤ 15) : inR (c_rd (nI a) B) (-200) 200 := by
  have h := rd136 ⟨a, ha⟩ ⟨B - 1, by omega⟩
  simp only [show B - 1 + 1 = B by omega] at h
  exact inR_of h.1 h.2
section
variable {w : zW} {f : Nat → Option zO} {o q : Nat} {n : Nat × Nat} {C : cS} {M : mS} {ec bc gc : Nat}
theorem gl_in (he : eR C M ec) {b : Nat} (hb : bN C M b ec) : ∀ (m i : Nat) (a : Int32), i + m ≤ csz C b → inR a 1 4 → inR (itr (m_gl C b) m i a) 1 4
  | 0, _, _, _, h => h
  | m + 1, i, a, hi, h => by
    rw [itr]
    refine gl_in he hb m (i + 1) _ (by omega) ?_
    obtain ⟨x, x1, x2, x3⟩ := lev_in C (cN C b i) (he.2.2 _ (hb.2.2.2 i (by omega)).2.1).2.1.2.1
    obtain ⟨y, y1, y2, rfl⟩ := h
    unfold m_gl
    rw [x3]
    split
    · rename_i p
      rw [zI_lt (by omega) (by omega) (by omega) (by omega)] at p
      exact ⟨x, by omega, x2, rfl⟩
    · exact ⟨y, y1, y2, rfl⟩
theorem lane_in (he : eR C M ec) {b k : Nat} (hw : bW C M ec b) (hB : inR (cM C b 3) (-300) 300 ∧ inR (cM C b 4) (-6) 6) (hk : k < csz C b) : inR (m_lane C b (csz C b) (nI k) (itr (m_gl C b) (csz C b) 0 1)) (-620) 620 := by
  have hS := hw.1.2.1
  have hs2 := hw.2.2.1
  have h1 := inR_add hB.1 (rd_in hB.2 (show k < 16 by omega) (show 1 ≤ csz C b - 1 by omega) (show csz C b - 1 ≤ 15 by omega))
  obtain ⟨l, l1, l2, l3⟩ := gl_in he hw.1 (csz C b) 0 1 (by omega) ⟨1, by omega, by omega, rfl⟩
  have hoff : inR (m_off C b (csz C b) (nI k) (itr (m_gl C b) (csz C b) 0 1)) (-200) 200 := by
    have e3 : (3 : Int32) * (itr (m_gl C b) (csz C b) 0 1 - 1) = zI (3 * (l - 1)) := by
      rw [l3, show (1 : Int32) = zI 1 from rfl, zI_sub, show (3 : Int32) = zI 3 from rfl, zI_mul]
    have hl9 : 0 ≤ 3 * (l - 1) ∧ 3 * (l - 1) ≤ 9 := by omega
    have hmul : ∀ j : Nat, j ≤ 15 → ∃ a : Nat, a < 136 ∧ zI (3 * (l - 1)) * nI j = nI a := by
      intro j hj
      refine ⟨(3 * (l - 1)).toNat * j, ?_, ?_⟩
      · have := Nat.mul_le_mul (show (3 * (l - 1)).toNat ≤ 9 by omega) hj
        omega
      · have e : zI (3 * (l - 1)) = nI (3 * (l - 1)).toNat := by
          rw [nI_zI]
          congr 1
          omega
        rw [e, pk_mul]
    unfold m_off
    rw [e3]
    split
    · obtain ⟨a, a1, a2⟩ := hmul k (by omega)
      rw [a2]
      exact rdA_in a1 (by omega) (by omega)
    · split
      · have e : nI (csz C b - 1) - nI k = nI (csz C b - 1 - k) := by
          rw [nI_zI, nI_zI, nI_zI, zI_sub]
          congr 1
          omega
        rw [e]
        obtain ⟨a, a1, a2⟩ := hmul (csz C b - 1 - k) (by omega)
        rw [a2]
        exact rdA_in a1 (by omega) (by omega)
      · exact ⟨_, by omega, by omega, rfl⟩
  unfold m_lane m_hA
  split
  · exact inR_w (inR_add h1 hoff) (by omega) (by omega)
  · obtain ⟨x, x1, x2, x3⟩ := hoff
    rw [x3, zI_neg]
    exact inR_w (inR_add h1 (⟨-x, by omega, by omega, rfl⟩ : inR (zI (-x)) (-200) 200)) (by omega) (by omega)
/-- getting out of the way, as the reference reckons it -/
theorem clr_eq {L h wy : Int32} (hL : inR L (-620) 620) (hh : inR h (-8) 8) (hw : wy = 1 ∨ wy = -1) : (if wy = 1 then (if L - 6 < h then L - 6 - i_fm (L - 6) 4 else h) else if wy = -1 then (if h < L + 6 then L + 6 + i_fm (-(L + 6)) 4 else h) else h) = if wy * h ≤ wy * L - 6 then h else wy * (wy * L - 6 - ((wy * L - 6 - (wy * L - 6) / 4 * 4 + 4) - (wy * L - 6 - (wy * L - 6) / 4 * 4 + 4) / 4 * 4)) := by
  obtain ⟨x, x1, x2, rfl⟩ := hL
  obtain ⟨y, y1, y2, rfl⟩ := hh
  have h6 : (6 : Int32) = zI 6 := rfl
  rcases hw with rfl | rfl
  · have e1 : (1 : Int32) * zI x - 6 = zI (x - 6) := by rw [Int32.one_mul, h6, zI_sub]
    have e2 : zI x - 6 = zI (x - 6) := by rw [h6, zI_sub]
    rw [if_pos rfl, e1, e2, Int32.one_mul, Int32.one_mul, fm_eq ⟨x - 6, by omega, by omega, rfl⟩]
    have a1 : zI (x - 6) < zI y ↔ x - 6 < y := zI_lt (by omega) (by omega) (by omega) (by omega)
    have a2 : zI y ≤ zI (x - 6) ↔ y ≤ x - 6 := zI_le (by omega) (by omega) (by omega) (by omega)
    by_cases p : x - 6 < y
    · rw [if_pos (a1.mpr p), if_neg (fun z => by have := a2.mp z; omega)]
    · rw [if_neg (fun z => p (a1.mp z)), if_pos (a2.mpr (by omega))]
  · have e1 : (-1 : Int32) * zI x - 6 = zI (-x - 6) := by
      rw [h6, show (-1 : Int32) = zI (-1) from rfl, zI_mul, zI_sub]
      congr 1
      omega
    have e2 : zI x + 6 = zI (x + 6) := by rw [h6, zI_add]
    have e3 : -zI (x + 6) = zI (-x - 6) := by
      rw [zI_neg]
      congr 1
      omega
    have e4 : (-1 : Int32) * zI y = zI (-y) := by
      rw [show (-1 : Int32) = zI (-1) from rfl, zI_mul]
      congr 1
      omega
    rw [if_neg (show ¬ ((-1 : Int32) = 1) by decide), if_pos rfl, e1, e2, e3, e4, fm_eq ⟨-x - 6, by omega, by omega, rfl⟩]
    have a1 : zI y < zI (x + 6) ↔ y < x + 6 := zI_lt (by omega) (by omega) (by omega) (by omega)
    have a2 : zI (-y) ≤ zI (-x - 6) ↔ -y ≤ -x - 6 := zI_le (by omega) (by omega) (by omega) (by omega)
    by_cases p : y < x + 6
    · rw [if_pos (a1.mpr p), if_neg (fun z => by have := a2.mp z; omega)]
      have : zI (x + 6) = -zI (-x - 6) := by rw [← e3]; grind
      rw [this]
      grind
    · rw [if_neg (fun z => p (a1.mp z)), if_pos (a2.mpr (by omega))]
theorem rh_in (C : cS) (e : Nat) : inR (c_rh C e) (-8) 8 := by
  unfold c_rh
  split
  · exact ⟨0, by omega, by omega, rfl⟩
  · split
    · exact ⟨8, by omega, by omega, rfl⟩
    · exact ⟨-8, by omega, by omega, rfl⟩
theorem ctR_rest (h : RR C M ec bc gc) {e : Nat} (he : e < ec) (h5 : cE C e 5 = 0) : zm_C w mX4_rest [.ref q, .int (nI e)] (mH f q M, n) (some (.int (c_rest C ec bc e))) (mH f q (tI M 0 0), n) := by
  have h0 := (RR_th h 0).1
  obtain ⟨r1, r2, r3, r4, r5, r6, r7, r8, r9, r10⟩ := id h0
  have hec := r6.1
  have ho := r6.2.2 e he
  have hce : (nI e).toNatClampNeg = e := nI_clamp (by omega)
  have e6 : mA (tI M 0 0) 6 e = 1 := (rest_iff ho).mpr h5
  refine zm_C.of (mc := 0) (ms := 0) rfl rfl (by decide) (Nat.le_of_ble_eq_true rfl) ?_
  intro Γ X
  -- what stands behind the loops
  have inner : ∀ b, b < bc → (∀ (x : Int32) (r4' r5 r6 r7 : Option Value), (((∃ b0 k0, b0 < b + 1 ∧ bOver C e b0 k0) ∧ x = c_rest C ec bc e) ∨ ((∀ b0 k0, b0 < b + 1 → ¬ bOver C e b0 k0) ∧ x = c_rh C e)) → zm_V w Γ 62 [some (.ref q), some (.int (nI e)), some (.int x), some (.int (nI (b + 1))), r4', r5, r6, r7] [] (mH f q (tI M 0 0), n)) → ∀ (m k : Nat) (x : Int32) (r5 r6 r7 : Option Value), k + 1 + m = csz C b → (((∃ b0 k0, (b0 < b ∨ (b0 = b ∧ k0 < k)) ∧ bOver C e b0 k0) ∧ x = c_rest C ec bc e) ∨ ((∀ b0 k0, (b0 < b ∨ (b0 = b ∧ k0 < k)) → ¬ bOver C e b0 k0) ∧ x = c_rh C e)) → zm_V w Γ 73 [some (.ref q), some (.int (nI e)), some (.int x), some (.int (nI b)), some (.int (nI k)), r5, r6, r7] [] (mH f q (tI M 0 0), n) := by
    intro b hb hout m
    have hW := r9 b hb
    have w1 := hW.1
    have w2 := hW.2.1
    have hS := w1.2.1
    have hcb : (nI b).toNatClampNeg = b := nI_clamp (by omega)
    induction m with
    | zero =>
      intro k x r5 r6' r7' h1 h2
      refine bkX4_rest_73 X _ _ _ ?_
      simp only [zi_push, zi_ldi, zi_ldl, zi_lda, zi_sti, zi_stl, zi_sta, zi_inc, zi_b, zi_d, zi_u, zi_bl, zi_dl, zi_ul, zi_lcmp, zi_i2l, zi_l2i, zi_if, zi_ic, zi_nul, zi_dup, zi_pop, zi_dup_x1, zi_dup2, zi_gf, zi_pf, zi_ia, zi_is, zi_la, zi_lst, zi_aa, zi_as, zi_len, zi_new, zi_na, zi_mx, zi_mn, zi_sw, zi_swx, zi_cv, zi_cs, zi_ci, zi_obj, zi_iret, zi_lret, zi_zret, zi_aret, zi_vret, zm_s1, zm_s2, zm_k, zm_tk, zm_Rt, zm_is, List.getElem?_cons_zero, List.getElem?_cons_succ, List.set_cons_zero, List.set_cons_succ, List.length_cons, List.length_nil, List.map_cons, List.map_nil, List.sum_cons, List.sum_nil, List.nil_append, List.cons_append, Option.toList, Value.category, reduceIte, Nat.reduceAdd, Nat.reduceLeDiff, Nat.reduceLT, Nat.reduceEqDiff, Nat.reduceMul, and_true, true_and, and_self, Nat.zero_add, Nat.add_zero, Nat.le_refl, true_or, or_true, not_true_eq_false, not_false_eq_true, zm_ft_int, zm_ft_long, zm_ft_ref, zm_ft_null, zm_ft_b0, zm_ft_b1, i_2, i_3, i_4, i_10, io_16, io_64, io_33, io_2, cF_ev, cF_bm, va_rf, cH_0, cH_1, cH_2, cH_3, cH_4, cH_5, uT4, uT5, uT6, uT7, uB1, uB2, uB3, uG, uV, mH_0, mH_1, mH_2, mH_3, mH_4, mH_5, mH_6, mH_7, mH_8, mH_9, mH_10, mH_11, mH_12, mH_13, mH_14, mH_15, mH_16, mH_17, mH_18, mH_19, mH_20, mH_21, vI0, vI1, vI2, vI3, vI5, vI17, vI18, vI19, vA4, vA6, vA7, vA8, vA9, vA10, vA11, vA12, vA13, vA14, vA15, vA16, vA20, vA21, vA22, vA23, vA24, vA25, vA26, vA27, vD, nI_1, hcb, w1.2.2.1]
      refine ⟨vp_in_nI (by omega) (by decide), fun _ => hout x _ _ _ _ ?_, fun p => absurd (nI_le (by omega) (by omega)) p⟩
      rcases h2 with ⟨⟨b0, k0, z1, z2⟩, z3⟩ | ⟨z1, z2⟩
      · exact Or.inl ⟨⟨b0, k0, by omega, z2⟩, z3⟩
      · refine Or.inr ⟨fun b0 k0 hb0 hov => ?_, z2⟩
        by_cases e1 : b0 = b
        · subst e1
          have := hov.1
          exact z1 b0 k0 (Or.inr ⟨rfl, by omega⟩) hov
        · exact z1 b0 k0 (Or.inl (by omega)) hov
    | succ m ih =>
      intro k x r5 r6' r7' h1 h2
      have hk : k < csz C b := by omega
      have hk1 : k + 1 < csz C b := by omega
      have n0 := (w1.2.2.2 0 (by omega)).2.1
      have nk := (w1.2.2.2 k hk).2.1
      have nk1 := (w1.2.2.2 (k + 1) hk1).2.1
      have skip : (¬ bOver C e b k) → ∀ r5 r6 r7 : Option Value, zm_V w Γ 73 [some (.ref q), some (.int (nI e)), some (.int x), some (.int (nI b)), some (.int (nI (k + 1))), r5, r6, r7] [] (mH f q (tI M 0 0), n) := by
        intro hno r5 r6 r7
        refine ih (k + 1) x r5 r6 r7 (by omega) ?_
        rcases h2 with ⟨⟨b0, k0, z1, z2⟩, z3⟩ | ⟨z1, z2⟩
        · exact Or.inl ⟨⟨b0, k0, by omega, z2⟩, z3⟩
        · refine Or.inr ⟨fun b0 k0 hb0 hov => ?_, z2⟩
          by_cases e1 : b0 = b ∧ k0 = k
          · rw [e1.1, e1.2] at hov
            exact hno hov
          · exact z1 b0 k0 (by omega) hov
      have done : bOver C e b k → ∀ y : Int32, y = c_rest C ec bc e → ∀ r5 r6 r7 : Option Value, zm_V w Γ 73 [some (.ref q), some (.int (nI e)), some (.int y), some (.int (nI b)), some (.int (nI (k + 1))), r5, r6, r7] [] (mH f q (tI M 0 0), n) := by
        intro hov y hy r5 r6 r7
        exact ih (k + 1) y r5 r6 r7 (by omega) (Or.inl ⟨⟨b, k, Or.inr ⟨rfl, by omega⟩, hov⟩, hy⟩)
      refine bkX4_rest_73 X _ _ _ ?_
      simp only [zi_push, zi_ldi, zi_ldl, zi_lda, zi_sti, zi_stl, zi_sta, zi_inc, zi_b, zi_d, zi_u, zi_bl, zi_dl, zi_ul, zi_lcmp, zi_i2l, zi_l2i, zi_if, zi_ic, zi_nul, zi_dup, zi_pop, zi_dup_x1, zi_dup2, zi_gf, zi_pf, zi_ia, zi_is, zi_la, zi_lst, zi_aa, zi_as, zi_len, zi_new, zi_na, zi_mx, zi_mn, zi_sw, zi_swx, zi_cv, zi_cs, zi_ci, zi_obj, zi_iret, zi_lret, zi_zret, zi_aret, zi_vret, zm_s1, zm_s2, zm_k, zm_tk, zm_Rt, zm_is, List.getElem?_cons_zero, List.getElem?_cons_succ, List.set_cons_zero, List.set_cons_succ, List.length_cons, List.length_nil, List.map_cons, List.map_nil, List.sum_cons, List.sum_nil, List.nil_append, List.cons_append, Option.toList, Value.category, reduceIte, Nat.reduceAdd, Nat.reduceLeDiff, Nat.reduceLT, Nat.reduceEqDiff, Nat.reduceMul, and_true, true_and, and_self, Nat.zero_add, Nat.add_zero, Nat.le_refl, true_or, or_true, not_true_eq_false, not_false_eq_true, zm_ft_int, zm_ft_long, zm_ft_ref, zm_ft_null, zm_ft_b0, zm_ft_b1, i_2, i_3, i_4, i_10, io_16, io_64, io_33, io_2, cF_ev, cF_bm, va_rf, cH_0, cH_1, cH_2, cH_3, cH_4, cH_5, uT4, uT5, uT6, uT7, uB1, uB2, uB3, uG, uV, mH_0, mH_1, mH_2, mH_3, mH_4, mH_5, mH_6, mH_7, mH_8, mH_9, mH_10, mH_11, mH_12, mH_13, mH_14, mH_15, mH_16, mH_17, mH_18, mH_19, mH_20, mH_21, vI0, vI1, vI2, vI3, vI5, vI17, vI18, vI19, vA4, vA6, vA7, vA8, vA9, vA10, vA11, vA12, vA13, vA14, vA15, vA16, vA20, vA21, vA22, vA23, vA24, vA25, vA26, vA27, vD, nI_1, hcb, w1.2.2.1]
      refine ⟨vp_in_nI (by omega) (by decide), fun p => absurd p (nI_ge (by omega) (by omega)), fun _ => ?_⟩
      refine zm_call.of (ctR_noteAt w1 (k := 0) (by omega)) (Nat.le_refl _) (Nat.le_refl _) ?_
      simp only [zi_push, zi_ldi, zi_ldl, zi_lda, zi_sti, zi_stl, zi_sta, zi_inc, zi_b, zi_d, zi_u, zi_bl, zi_dl, zi_ul, zi_lcmp, zi_i2l, zi_l2i, zi_if, zi_ic, zi_nul, zi_dup, zi_pop, zi_dup_x1, zi_dup2, zi_gf, zi_pf, zi_ia, zi_is, zi_la, zi_lst, zi_aa, zi_as, zi_len, zi_new, zi_na, zi_mx, zi_mn, zi_sw, zi_swx, zi_cv, zi_cs, zi_ci, zi_obj, zi_iret, zi_lret, zi_zret, zi_aret, zi_vret, zm_s1, zm_s2, zm_k, zm_tk, zm_Rt, zm_is, List.getElem?_cons_zero, List.getElem?_cons_succ, List.set_cons_zero, List.set_cons_succ, List.length_cons, List.length_nil, List.map_cons, List.map_nil, List.sum_cons, List.sum_nil, List.nil_append, List.cons_append, Option.toList, Value.category, reduceIte, Nat.reduceAdd, Nat.reduceLeDiff, Nat.reduceLT, Nat.reduceEqDiff, Nat.reduceMul, and_true, true_and, and_self, Nat.zero_add, Nat.add_zero, Nat.le_refl, true_or, or_true, not_true_eq_false, not_false_eq_true, zm_ft_int, zm_ft_long, zm_ft_ref, zm_ft_null, zm_ft_b0, zm_ft_b1, i_2, i_3, i_4, i_10, io_16, io_64, io_33, io_2, cF_ev, cF_bm, va_rf, cH_0, cH_1, cH_2, cH_3, cH_4, cH_5, uT4, uT5, uT6, uT7, uB1, uB2, uB3, uG, uV, mH_0, mH_1, mH_2, mH_3, mH_4, mH_5, mH_6, mH_7, mH_8, mH_9, mH_10, mH_11, mH_12, mH_13, mH_14, mH_15, mH_16, mH_17, mH_18, mH_19, mH_20, mH_21, vI0, vI1, vI2, vI3, vI5, vI17, vI18, vI19, vA4, vA6, vA7, vA8, vA9, vA10, vA11, vA12, vA13, vA14, vA15, vA16, vA20, vA21, vA22, vA23, vA24, vA25, vA26, vA27, vD, nI_clamp (show cN C b 0 < 2 ^ 31 by omega), hce, (r6.2.2 _ n0).1.1, ho.1.1, nI_1]
      refine ⟨vp_in_nI (by omega) (by decide), vp_in_nI (by omega) (by decide), fun pv => ?_, fun pv => skip (fun hov => pv hov.2.1) _ _ _⟩
      refine zm_call.of (ctR_noteAt w1 hk) (Nat.le_refl _) (Nat.le_refl _) ?_
      simp only [zi_push, zi_ldi, zi_ldl, zi_lda, zi_sti, zi_stl, zi_sta, zi_inc, zi_b, zi_d, zi_u, zi_bl, zi_dl, zi_ul, zi_lcmp, zi_i2l, zi_l2i, zi_if, zi_ic, zi_nul, zi_dup, zi_pop, zi_dup_x1, zi_dup2, zi_gf, zi_pf, zi_ia, zi_is, zi_la, zi_lst, zi_aa, zi_as, zi_len, zi_new, zi_na, zi_mx, zi_mn, zi_sw, zi_swx, zi_cv, zi_cs, zi_ci, zi_obj, zi_iret, zi_lret, zi_zret, zi_aret, zi_vret, zm_s1, zm_s2, zm_k, zm_tk, zm_Rt, zm_is, List.getElem?_cons_zero, List.getElem?_cons_succ, List.set_cons_zero, List.set_cons_succ, List.length_cons, List.length_nil, List.map_cons, List.map_nil, List.sum_cons, List.sum_nil, List.nil_append, List.cons_append, Option.toList, Value.category, reduceIte, Nat.reduceAdd, Nat.reduceLeDiff, Nat.reduceLT, Nat.reduceEqDiff, Nat.reduceMul, and_true, true_and, and_self, Nat.zero_add, Nat.add_zero, Nat.le_refl, true_or, or_true, not_true_eq_false, not_false_eq_true, zm_ft_int, zm_ft_long, zm_ft_ref, zm_ft_null, zm_ft_b0, zm_ft_b1, i_2, i_3, i_4, i_10, io_16, io_64, io_33, io_2, cF_ev, cF_bm, va_rf, cH_0, cH_1, cH_2, cH_3, cH_4, cH_5, uT4, uT5, uT6, uT7, uB1, uB2, uB3, uG, uV, mH_0, mH_1, mH_2, mH_3, mH_4, mH_5, mH_6, mH_7, mH_8, mH_9, mH_10, mH_11, mH_12, mH_13, mH_14, mH_15, mH_16, mH_17, mH_18, mH_19, mH_20, mH_21, vI0, vI1, vI2, vI3, vI5, vI17, vI18, vI19, vA4, vA6, vA7, vA8, vA9, vA10, vA11, vA12, vA13, vA14, vA15, vA16, vA20, vA21, vA22, vA23, vA24, vA25, vA26, vA27, vD, nI_leI (show e < 2 ^ 31 by omega) (show cN C b k < 2 ^ 31 by omega), nI_1]
      refine ⟨fun p => skip (fun hov => by have := hov.2.2.1; omega) _ _ _, fun p1 => ?_⟩
      refine zm_call.of (ctR_noteAt w1 hk1) (Nat.le_refl _) (Nat.le_refl _) ?_
      simp only [zi_push, zi_ldi, zi_ldl, zi_lda, zi_sti, zi_stl, zi_sta, zi_inc, zi_b, zi_d, zi_u, zi_bl, zi_dl, zi_ul, zi_lcmp, zi_i2l, zi_l2i, zi_if, zi_ic, zi_nul, zi_dup, zi_pop, zi_dup_x1, zi_dup2, zi_gf, zi_pf, zi_ia, zi_is, zi_la, zi_lst, zi_aa, zi_as, zi_len, zi_new, zi_na, zi_mx, zi_mn, zi_sw, zi_swx, zi_cv, zi_cs, zi_ci, zi_obj, zi_iret, zi_lret, zi_zret, zi_aret, zi_vret, zm_s1, zm_s2, zm_k, zm_tk, zm_Rt, zm_is, List.getElem?_cons_zero, List.getElem?_cons_succ, List.set_cons_zero, List.set_cons_succ, List.length_cons, List.length_nil, List.map_cons, List.map_nil, List.sum_cons, List.sum_nil, List.nil_append, List.cons_append, Option.toList, Value.category, reduceIte, Nat.reduceAdd, Nat.reduceLeDiff, Nat.reduceLT, Nat.reduceEqDiff, Nat.reduceMul, and_true, true_and, and_self, Nat.zero_add, Nat.add_zero, Nat.le_refl, true_or, or_true, not_true_eq_false, not_false_eq_true, zm_ft_int, zm_ft_long, zm_ft_ref, zm_ft_null, zm_ft_b0, zm_ft_b1, i_2, i_3, i_4, i_10, io_16, io_64, io_33, io_2, cF_ev, cF_bm, va_rf, cH_0, cH_1, cH_2, cH_3, cH_4, cH_5, uT4, uT5, uT6, uT7, uB1, uB2, uB3, uG, uV, mH_0, mH_1, mH_2, mH_3, mH_4, mH_5, mH_6, mH_7, mH_8, mH_9, mH_10, mH_11, mH_12, mH_13, mH_14, mH_15, mH_16, mH_17, mH_18, mH_19, mH_20, mH_21, vI0, vI1, vI2, vI3, vI5, vI17, vI18, vI19, vA4, vA6, vA7, vA8, vA9, vA10, vA11, vA12, vA13, vA14, vA15, vA16, vA20, vA21, vA22, vA23, vA24, vA25, vA26, vA27, vD, nI_leI (show cN C b (k + 1) < 2 ^ 31 by omega) (show e < 2 ^ 31 by omega), nI_1, hcb, w2.1]
      refine ⟨fun p => skip (fun hov => by have := hov.2.2.2; omega) _ _ _, fun p2 => ⟨vp_in_nI (by omega) (by decide), fun pw => ?_, fun pw => ⟨vp_in_nI (by omega) (by decide), ?_⟩⟩⟩
      · have hov : bOver C e b k := ⟨hk1, pv, by omega, by omega⟩
        refine done hov x ?_ _ _ _
        rcases h2 with ⟨⟨b0, k0, z1, z2⟩, z3⟩ | ⟨z1, z2⟩
        · exact z3
        · rw [z2, rest_over h0 he hb hov]
          unfold m_clr
          dsimp only
          rw [pw, if_neg (by decide), if_neg (by decide)]
      · have hov : bOver C e b k := ⟨hk1, pv, by omega, by omega⟩
        have hx : x = c_rh C e := by
          rcases h2 with ⟨⟨b0, k0, z1, z2⟩, z3⟩ | ⟨z1, z2⟩
          · have u := over_uniq h0 he (show b0 < bc by omega) hb z2 hov
            omega
          · exact z2
        have hww : cM C b 2 = 1 ∨ cM C b 2 = -1 := by
          rcases w2.2.1 with z | z
          · exact absurd z pw
          · exact z
        have hcl := clr_eq (lane_in r6 hW (h.2.2 b hb) hk) (rh_in C e) hww
        have hr : c_rest C ec bc e = m_clr C b (csz C b) (c_rh C e) (nI k) := rest_over h0 he hb hov
        unfold m_clr at hr
        dsimp only at hr
        rw [hcl] at hr
        refine zm_call.of (ctR_greatest r6 w1) (Nat.le_refl _) (Nat.le_refl _) ?_
        simp only [zi_push, zi_ldi, zi_ldl, zi_lda, zi_sti, zi_stl, zi_sta, zi_inc, zi_b, zi_d, zi_u, zi_bl, zi_dl, zi_ul, zi_lcmp, zi_i2l, zi_l2i, zi_if, zi_ic, zi_nul, zi_dup, zi_pop, zi_dup_x1, zi_dup2, zi_gf, zi_pf, zi_ia, zi_is, zi_la, zi_lst, zi_aa, zi_as, zi_len, zi_new, zi_na, zi_mx, zi_mn, zi_sw, zi_swx, zi_cv, zi_cs, zi_ci, zi_obj, zi_iret, zi_lret, zi_zret, zi_aret, zi_vret, zm_s1, zm_s2, zm_k, zm_tk, zm_Rt, zm_is, List.getElem?_cons_zero, List.getElem?_cons_succ, List.set_cons_zero, List.set_cons_succ, List.length_cons, List.length_nil, List.map_cons, List.map_nil, List.sum_cons, List.sum_nil, List.nil_append, List.cons_append, Option.toList, Value.category, reduceIte, Nat.reduceAdd, Nat.reduceLeDiff, Nat.reduceLT, Nat.reduceEqDiff, Nat.reduceMul, and_true, true_and, and_self, Nat.zero_add, Nat.add_zero, Nat.le_refl, true_or, or_true, not_true_eq_false, not_false_eq_true, zm_ft_int, zm_ft_long, zm_ft_ref, zm_ft_null, zm_ft_b0, zm_ft_b1, i_2, i_3, i_4, i_10, io_16, io_64, io_33, io_2, cF_ev, cF_bm, va_rf, cH_0, cH_1, cH_2, cH_3, cH_4, cH_5, uT4, uT5, uT6, uT7, uB1, uB2, uB3, uG, uV, mH_0, mH_1, mH_2, mH_3, mH_4, mH_5, mH_6, mH_7, mH_8, mH_9, mH_10, mH_11, mH_12, mH_13, mH_14, mH_15, mH_16, mH_17, mH_18, mH_19, mH_20, mH_21, vI0, vI1, vI2, vI3, vI5, vI17, vI18, vI19, vA4, vA6, vA7, vA8, vA9, vA10, vA11, vA12, vA13, vA14, vA15, vA16, vA20, vA21, vA22, vA23, vA24, vA25, vA26, vA27, vD]
        refine zm_call.of (ctR_laneAt r6 hW (nI k) _) (Nat.le_refl _) (Nat.le_refl _) ?_
        simp only [zi_push, zi_ldi, zi_ldl, zi_lda, zi_sti, zi_stl, zi_sta, zi_inc, zi_b, zi_d, zi_u, zi_bl, zi_dl, zi_ul, zi_lcmp, zi_i2l, zi_l2i, zi_if, zi_ic, zi_nul, zi_dup, zi_pop, zi_dup_x1, zi_dup2, zi_gf, zi_pf, zi_ia, zi_is, zi_la, zi_lst, zi_aa, zi_as, zi_len, zi_new, zi_na, zi_mx, zi_mn, zi_sw, zi_swx, zi_cv, zi_cs, zi_ci, zi_obj, zi_iret, zi_lret, zi_zret, zi_aret, zi_vret, zm_s1, zm_s2, zm_k, zm_tk, zm_Rt, zm_is, List.getElem?_cons_zero, List.getElem?_cons_succ, List.set_cons_zero, List.set_cons_succ, List.length_cons, List.length_nil, List.map_cons, List.map_nil, List.sum_cons, List.sum_nil, List.nil_append, List.cons_append, Option.toList, Value.category, reduceIte, Nat.reduceAdd, Nat.reduceLeDiff, Nat.reduceLT, Nat.reduceEqDiff, Nat.reduceMul, and_true, true_and, and_self, Nat.zero_add, Nat.add_zero, Nat.le_refl, true_or, or_true, not_true_eq_false, not_false_eq_true, zm_ft_int, zm_ft_long, zm_ft_ref, zm_ft_null, zm_ft_b0, zm_ft_b1, i_2, i_3, i_4, i_10, io_16, io_64, io_33, io_2, cF_ev, cF_bm, va_rf, cH_0, cH_1, cH_2, cH_3, cH_4, cH_5, uT4, uT5, uT6, uT7, uB1, uB2, uB3, uG, uV, mH_0, mH_1, mH_2, mH_3, mH_4, mH_5, mH_6, mH_7, mH_8, mH_9, mH_10, mH_11, mH_12, mH_13, mH_14, mH_15, mH_16, mH_17, mH_18, mH_19, mH_20, mH_21, vI0, vI1, vI2, vI3, vI5, vI17, vI18, vI19, vA4, vA6, vA7, vA8, vA9, vA10, vA11, vA12, vA13, vA14, vA15, vA16, vA20, vA21, vA22, vA23, vA24, vA25, vA26, vA27, vD, hcb, w2.1, nI_1]
        rw [hx]
        refine ⟨vp_in_nI (by omega) (by decide), fun p => done hov _ ?_ _ _ _, fun p => ⟨vp_in_nI (by omega) (by decide), done hov _ ?_ _ _ _⟩⟩
        · rw [hr, if_pos p]
        · rw [hr, if_neg p]
  have outer : ∀ (m b : Nat) (x : Int32) (r4' r5 r6 r7 : Option Value), b + m = bc → (((∃ b0 k0, b0 < b ∧ bOver C e b0 k0) ∧ x = c_rest C ec bc e) ∨ ((∀ b0 k0, b0 < b → ¬ bOver C e b0 k0) ∧ x = c_rh C e)) → zm_V w Γ 62 [some (.ref q), some (.int (nI e)), some (.int x), some (.int (nI b)), r4', r5, r6, r7] [] (mH f q (tI M 0 0), n) := by
    intro m
    induction m with
    | zero =>
      intro b x r4' r5' r6' r7' h1 h2
      refine bkX4_rest_62 X _ _ _ ?_
      simp only [zi_push, zi_ldi, zi_ldl, zi_lda, zi_sti, zi_stl, zi_sta, zi_inc, zi_b, zi_d, zi_u, zi_bl, zi_dl, zi_ul, zi_lcmp, zi_i2l, zi_l2i, zi_if, zi_ic, zi_nul, zi_dup, zi_pop, zi_dup_x1, zi_dup2, zi_gf, zi_pf, zi_ia, zi_is, zi_la, zi_lst, zi_aa, zi_as, zi_len, zi_new, zi_na, zi_mx, zi_mn, zi_sw, zi_swx, zi_cv, zi_cs, zi_ci, zi_obj, zi_iret, zi_lret, zi_zret, zi_aret, zi_vret, zm_s1, zm_s2, zm_k, zm_tk, zm_Rt, zm_is, List.getElem?_cons_zero, List.getElem?_cons_succ, List.set_cons_zero, List.set_cons_succ, List.length_cons, List.length_nil, List.map_cons, List.map_nil, List.sum_cons, List.sum_nil, List.nil_append, List.cons_append, Option.toList, Value.category, reduceIte, Nat.reduceAdd, Nat.reduceLeDiff, Nat.reduceLT, Nat.reduceEqDiff, Nat.reduceMul, and_true, true_and, and_self, Nat.zero_add, Nat.add_zero, Nat.le_refl, true_or, or_true, not_true_eq_false, not_false_eq_true, zm_ft_int, zm_ft_long, zm_ft_ref, zm_ft_null, zm_ft_b0, zm_ft_b1, i_2, i_3, i_4, i_10, io_16, io_64, io_33, io_2, cF_ev, cF_bm, va_rf, cH_0, cH_1, cH_2, cH_3, cH_4, cH_5, uT4, uT5, uT6, uT7, uB1, uB2, uB3, uG, uV, mH_0, mH_1, mH_2, mH_3, mH_4, mH_5, mH_6, mH_7, mH_8, mH_9, mH_10, mH_11, mH_12, mH_13, mH_14, mH_15, mH_16, mH_17, mH_18, mH_19, mH_20, mH_21, vI0, vI1, vI2, vI3, vI5, vI17, vI18, vI19, vA4, vA6, vA7, vA8, vA9, vA10, vA11, vA12, vA13, vA14, vA15, vA16, vA20, vA21, vA22, vA23, vA24, vA25, vA26, vA27, vD, r4]
      refine ⟨fun _ => ?_, fun p => absurd (nI_le (by omega) (by omega)) p⟩
      rcases h2 with ⟨-, z⟩ | ⟨z1, z2⟩
      · rw [z]
      · rw [z2, rest_no h0 he h5 (fun b0 k0 hb0 => z1 b0 k0 (by omega))]
    | succ m ih =>
      intro b x r4' r5' r6' r7' h1 h2
      have hS := (r9 b (by omega)).2.2.1
      refine bkX4_rest_62 X _ _ _ ?_
      simp only [zi_push, zi_ldi, zi_ldl, zi_lda, zi_sti, zi_stl, zi_sta, zi_inc, zi_b, zi_d, zi_u, zi_bl, zi_dl, zi_ul, zi_lcmp, zi_i2l, zi_l2i, zi_if, zi_ic, zi_nul, zi_dup, zi_pop, zi_dup_x1, zi_dup2, zi_gf, zi_pf, zi_ia, zi_is, zi_la, zi_lst, zi_aa, zi_as, zi_len, zi_new, zi_na, zi_mx, zi_mn, zi_sw, zi_swx, zi_cv, zi_cs, zi_ci, zi_obj, zi_iret, zi_lret, zi_zret, zi_aret, zi_vret, zm_s1, zm_s2, zm_k, zm_tk, zm_Rt, zm_is, List.getElem?_cons_zero, List.getElem?_cons_succ, List.set_cons_zero, List.set_cons_succ, List.length_cons, List.length_nil, List.map_cons, List.map_nil, List.sum_cons, List.sum_nil, List.nil_append, List.cons_append, Option.toList, Value.category, reduceIte, Nat.reduceAdd, Nat.reduceLeDiff, Nat.reduceLT, Nat.reduceEqDiff, Nat.reduceMul, and_true, true_and, and_self, Nat.zero_add, Nat.add_zero, Nat.le_refl, true_or, or_true, not_true_eq_false, not_false_eq_true, zm_ft_int, zm_ft_long, zm_ft_ref, zm_ft_null, zm_ft_b0, zm_ft_b1, i_2, i_3, i_4, i_10, io_16, io_64, io_33, io_2, cF_ev, cF_bm, va_rf, cH_0, cH_1, cH_2, cH_3, cH_4, cH_5, uT4, uT5, uT6, uT7, uB1, uB2, uB3, uG, uV, mH_0, mH_1, mH_2, mH_3, mH_4, mH_5, mH_6, mH_7, mH_8, mH_9, mH_10, mH_11, mH_12, mH_13, mH_14, mH_15, mH_16, mH_17, mH_18, mH_19, mH_20, mH_21, vI0, vI1, vI2, vI3, vI5, vI17, vI18, vI19, vA4, vA6, vA7, vA8, vA9, vA10, vA11, vA12, vA13, vA14, vA15, vA16, vA20, vA21, vA22, vA23, vA24, vA25, vA26, vA27, vD, r4]
      refine ⟨fun p => absurd p (nI_ge (by omega) (by omega)), fun _ => ?_⟩
      refine inner b (by omega) (fun x r4 r5 r6 r7 h => ih (b + 1) x r4 r5 r6 r7 (by omega) h) (csz C b - 1) 0 x _ _ _ (by omega) ?_
      rcases h2 with ⟨⟨b0, k0, z1, z2⟩, z3⟩ | ⟨z1, z2⟩
      · exact Or.inl ⟨⟨b0, k0, Or.inl z1, z2⟩, z3⟩
      · exact Or.inr ⟨fun b0 k0 hb0 => z1 b0 k0 (by omega), z2⟩
  have fin : ∀ x : Int32, x = c_rh C e → zm_V w Γ 62 [some (.ref q), some (.int (nI e)), some (.int x), some (.int 0), none, none, none, none] [] (mH f q (tI M 0 0), n) := fun x hx => outer bc 0 x _ _ _ _ (by omega) (Or.inr ⟨fun b0 k0 hb0 => absurd hb0 (by omega), hx⟩)
  have hv1 : cV C 1 = 0 ↔ cV C 1 ≤ 0 := by
    obtain ⟨x, x1, x2, x3⟩ := h.2.1.2
    rw [x3, show (0 : Int32) = zI 0 from rfl, zI_eq (by omega) (by omega) (by omega) (by omega), zI_le (by omega) (by omega) (by omega) (by omega)]
    omega
  refine bkX4_rest_0 X [some (.ref q), some (.int (nI e)), none, none, none, none, none, none] [] _ ?_
  simp only [zi_push, zi_ldi, zi_ldl, zi_lda, zi_sti, zi_stl, zi_sta, zi_inc, zi_b, zi_d, zi_u, zi_bl, zi_dl, zi_ul, zi_lcmp, zi_i2l, zi_l2i, zi_if, zi_ic, zi_nul, zi_dup, zi_pop, zi_dup_x1, zi_dup2, zi_gf, zi_pf, zi_ia, zi_is, zi_la, zi_lst, zi_aa, zi_as, zi_len, zi_new, zi_na, zi_mx, zi_mn, zi_sw, zi_swx, zi_cv, zi_cs, zi_ci, zi_obj, zi_iret, zi_lret, zi_zret, zi_aret, zi_vret, zm_s1, zm_s2, zm_k, zm_tk, zm_Rt, zm_is, List.getElem?_cons_zero, List.getElem?_cons_succ, List.set_cons_zero, List.set_cons_succ, List.length_cons, List.length_nil, List.map_cons, List.map_nil, List.sum_cons, List.sum_nil, List.nil_append, List.cons_append, Option.toList, Value.category, reduceIte, Nat.reduceAdd, Nat.reduceLeDiff, Nat.reduceLT, Nat.reduceEqDiff, Nat.reduceMul, and_true, true_and, and_self, Nat.zero_add, Nat.add_zero, Nat.le_refl, true_or, or_true, not_true_eq_false, not_false_eq_true, zm_ft_int, zm_ft_long, zm_ft_ref, zm_ft_null, zm_ft_b0, zm_ft_b1, i_2, i_3, i_4, i_10, io_16, io_64, io_33, io_2, cF_ev, cF_bm, va_rf, cH_0, cH_1, cH_2, cH_3, cH_4, cH_5, uT4, uT5, uT6, uT7, uB1, uB2, uB3, uG, uV, mH_0, mH_1, mH_2, mH_3, mH_4, mH_5, mH_6, mH_7, mH_8, mH_9, mH_10, mH_11, mH_12, mH_13, mH_14, mH_15, mH_16, mH_17, mH_18, mH_19, mH_20, mH_21, vI0, vI1, vI2, vI3, vI5, vI17, vI18, vI19, vA4, vA6, vA7, vA8, vA9, vA10, vA11, vA12, vA13, vA14, vA15, vA16, vA20, vA21, vA22, vA23, vA24, vA25, vA26, vA27, vD]
  refine zm_call.of (ctR_isEvent r6.2.1 (nI e)) (Nat.le_refl _) (Nat.le_refl _) ?_
  simp only [zi_push, zi_ldi, zi_ldl, zi_lda, zi_sti, zi_stl, zi_sta, zi_inc, zi_b, zi_d, zi_u, zi_bl, zi_dl, zi_ul, zi_lcmp, zi_i2l, zi_l2i, zi_if, zi_ic, zi_nul, zi_dup, zi_pop, zi_dup_x1, zi_dup2, zi_gf, zi_pf, zi_ia, zi_is, zi_la, zi_lst, zi_aa, zi_as, zi_len, zi_new, zi_na, zi_mx, zi_mn, zi_sw, zi_swx, zi_cv, zi_cs, zi_ci, zi_obj, zi_iret, zi_lret, zi_zret, zi_aret, zi_vret, zm_s1, zm_s2, zm_k, zm_tk, zm_Rt, zm_is, List.getElem?_cons_zero, List.getElem?_cons_succ, List.set_cons_zero, List.set_cons_succ, List.length_cons, List.length_nil, List.map_cons, List.map_nil, List.sum_cons, List.sum_nil, List.nil_append, List.cons_append, Option.toList, Value.category, reduceIte, Nat.reduceAdd, Nat.reduceLeDiff, Nat.reduceLT, Nat.reduceEqDiff, Nat.reduceMul, and_true, true_and, and_self, Nat.zero_add, Nat.add_zero, Nat.le_refl, true_or, or_true, not_true_eq_false, not_false_eq_true, zm_ft_int, zm_ft_long, zm_ft_ref, zm_ft_null, zm_ft_b0, zm_ft_b1, i_2, i_3, i_4, i_10, io_16, io_64, io_33, io_2, cF_ev, cF_bm, va_rf, cH_0, cH_1, cH_2, cH_3, cH_4, cH_5, uT4, uT5, uT6, uT7, uB1, uB2, uB3, uG, uV, mH_0, mH_1, mH_2, mH_3, mH_4, mH_5, mH_6, mH_7, mH_8, mH_9, mH_10, mH_11, mH_12, mH_13, mH_14, mH_15, mH_16, mH_17, mH_18, mH_19, mH_20, mH_21, vI0, vI1, vI2, vI3, vI5, vI17, vI18, vI19, vA4, vA6, vA7, vA8, vA9, vA10, vA11, vA12, vA13, vA14, vA15, vA16, vA20, vA21, vA22, vA23, vA24, vA25, vA26, vA27, vD, hce, e6, show (1 : Int32).toNatClampNeg = 1 from rfl, r8.2.1, hv1, ho.1.1]
  refine ⟨fun p => absurd ((noN_in (by omega)).mp p) (noN_nI (by omega) he), fun _ => ⟨vp_in_nI (by omega) (by decide), fun p => absurd p (by decide), fun _ => ⟨vp_in_nI (n := 1) (by decide) (by decide), fun p => fin 0 ?_, fun p => ⟨vp_in_nI (by omega) (by decide), fun r => fin 8 ?_, fun r => fin (-8) ?_⟩⟩⟩⟩
  · rw [c_rh, c_two, if_pos p, if_pos rfl]
  · rw [c_rh, c_two, if_neg p, if_neg (by decide), if_pos r]
  · rw [c_rh, c_two, if_neg p, if_neg (by decide), if_neg r]
theorem j_rest (h : RR C M ec bc gc) (y : Int32) : jI w o q mX3_rest mX4_rest [.int y] C M := by
  have h0 := (RR_th h 0).1
  have hec : ec ≤ 64 := h.1.2.2.2.2.2.1.1
  have hbc : bc ≤ 32 := h.1.2.2.2.2.1
  have hsz : ∀ j, j < bc → 1 ≤ csz C j := fun j hj => by
    have := (h.1.2.2.2.2.2.2.2.2.1 j hj).2.2.1
    omega
  by_cases hy : noN y ec
  · refine ⟨-1002, C, tI M 0 0, ec, bc, gc, fun f n => ctS_rest1 h.1.2.1 hy, fun f n => ?_, RR_th h 0⟩
    refine zm_C.of (mc := 0) (ms := 0) rfl rfl (by decide) (Nat.le_of_ble_eq_true rfl) ?_
    intro Γ X
    refine bkX4_rest_0 X [some (.ref q), some (.int y), none, none, none, none, none, none] [] _ ?_
    simp only [zi_push, zi_ldi, zi_ldl, zi_lda, zi_sti, zi_stl, zi_sta, zi_inc, zi_b, zi_d, zi_u, zi_bl, zi_dl, zi_ul, zi_lcmp, zi_i2l, zi_l2i, zi_if, zi_ic, zi_nul, zi_dup, zi_pop, zi_dup_x1, zi_dup2, zi_gf, zi_pf, zi_ia, zi_is, zi_la, zi_lst, zi_aa, zi_as, zi_len, zi_new, zi_na, zi_mx, zi_mn, zi_sw, zi_swx, zi_cv, zi_cs, zi_ci, zi_obj, zi_iret, zi_lret, zi_zret, zi_aret, zi_vret, zm_s1, zm_s2, zm_k, zm_tk, zm_Rt, zm_is, List.getElem?_cons_zero, List.getElem?_cons_succ, List.set_cons_zero, List.set_cons_succ, List.length_cons, List.length_nil, List.map_cons, List.map_nil, List.sum_cons, List.sum_nil, List.nil_append, List.cons_append, Option.toList, Value.category, reduceIte, Nat.reduceAdd, Nat.reduceLeDiff, Nat.reduceLT, Nat.reduceEqDiff, Nat.reduceMul, and_true, true_and, and_self, Nat.zero_add, Nat.add_zero, Nat.le_refl, true_or, or_true, not_true_eq_false, not_false_eq_true, zm_ft_int, zm_ft_long, zm_ft_ref, zm_ft_null, zm_ft_b0, zm_ft_b1, i_2, i_3, i_4, i_10, io_16, io_64, io_33, io_2, cF_ev, cF_bm, va_rf, cH_0, cH_1, cH_2, cH_3, cH_4, cH_5, uT4, uT5, uT6, uT7, uB1, uB2, uB3, uG, uV, mH_0, mH_1, mH_2, mH_3, mH_4, mH_5, mH_6, mH_7, mH_8, mH_9, mH_10, mH_11, mH_12, mH_13, mH_14, mH_15, mH_16, mH_17, mH_18, mH_19, mH_20, mH_21, vI0, vI1, vI2, vI3, vI5, vI17, vI18, vI19, vA4, vA6, vA7, vA8, vA9, vA10, vA11, vA12, vA13, vA14, vA15, vA16, vA20, vA21, vA22, vA23, vA24, vA25, vA26, vA27, vD]
    refine zm_call.of (ctR_isEvent h0.2.2.2.2.2.1.2.1 y) (Nat.le_refl _) (Nat.le_refl _) ?_
    simp only [zi_push, zi_ldi, zi_ldl, zi_lda, zi_sti, zi_stl, zi_sta, zi_inc, zi_b, zi_d, zi_u, zi_bl, zi_dl, zi_ul, zi_lcmp, zi_i2l, zi_l2i, zi_if, zi_ic, zi_nul, zi_dup, zi_pop, zi_dup_x1, zi_dup2, zi_gf, zi_pf, zi_ia, zi_is, zi_la, zi_lst, zi_aa, zi_as, zi_len, zi_new, zi_na, zi_mx, zi_mn, zi_sw, zi_swx, zi_cv, zi_cs, zi_ci, zi_obj, zi_iret, zi_lret, zi_zret, zi_aret, zi_vret, zm_s1, zm_s2, zm_k, zm_tk, zm_Rt, zm_is, List.getElem?_cons_zero, List.getElem?_cons_succ, List.set_cons_zero, List.set_cons_succ, List.length_cons, List.length_nil, List.map_cons, List.map_nil, List.sum_cons, List.sum_nil, List.nil_append, List.cons_append, Option.toList, Value.category, reduceIte, Nat.reduceAdd, Nat.reduceLeDiff, Nat.reduceLT, Nat.reduceEqDiff, Nat.reduceMul, and_true, true_and, and_self, Nat.zero_add, Nat.add_zero, Nat.le_refl, true_or, or_true, not_true_eq_false, not_false_eq_true, zm_ft_int, zm_ft_long, zm_ft_ref, zm_ft_null, zm_ft_b0, zm_ft_b1, i_2, i_3, i_4, i_10, io_16, io_64, io_33, io_2, cF_ev, cF_bm, va_rf, cH_0, cH_1, cH_2, cH_3, cH_4, cH_5, uT4, uT5, uT6, uT7, uB1, uB2, uB3, uG, uV, mH_0, mH_1, mH_2, mH_3, mH_4, mH_5, mH_6, mH_7, mH_8, mH_9, mH_10, mH_11, mH_12, mH_13, mH_14, mH_15, mH_16, mH_17, mH_18, mH_19, mH_20, mH_21, vI0, vI1, vI2, vI3, vI5, vI17, vI18, vI19, vA4, vA6, vA7, vA8, vA9, vA10, vA11, vA12, vA13, vA14, vA15, vA16, vA20, vA21, vA22, vA23, vA24, vA25, vA26, vA27, vD]
    refine ⟨fun _ => trivial, fun p => absurd ((noN_in (by omega)).mpr hy) p⟩
  · obtain ⟨k, hk, rfl⟩ := noN_not (by omega) hy
    have ho := h0.2.2.2.2.2.1.2.2 k hk
    by_cases h5 : cE C k 5 = 0
    · exact ⟨c_rest C ec bc k, C, tI M 0 0, ec, bc, gc, fun f n => ctS_rest3 hec hbc h.1.2.1 h.1.2.2.1 h.1.1 hsz hk ho.1.2.2.2.2.2.2.2.2.2 h5, fun f n => ctR_rest h hk h5, RR_th h 0⟩
    · refine ⟨-1004, C, tI M 0 0, ec, bc, gc, fun f n => ctS_rest2 hec h.1.2.1 hk h5, fun f n => ?_, RR_th h 0⟩
      have e6 : mA (tI M 0 0) 6 k = 0 := by rw [ho.1.2.2.2.2.2.2.2.2.1, if_neg h5]
      refine zm_C.of (mc := 0) (ms := 0) rfl rfl (by decide) (Nat.le_of_ble_eq_true rfl) ?_
      intro Γ X
      refine bkX4_rest_0 X [some (.ref q), some (.int (nI k)), none, none, none, none, none, none] [] _ ?_
      simp only [zi_push, zi_ldi, zi_ldl, zi_lda, zi_sti, zi_stl, zi_sta, zi_inc, zi_b, zi_d, zi_u, zi_bl, zi_dl, zi_ul, zi_lcmp, zi_i2l, zi_l2i, zi_if, zi_ic, zi_nul, zi_dup, zi_pop, zi_dup_x1, zi_dup2, zi_gf, zi_pf, zi_ia, zi_is, zi_la, zi_lst, zi_aa, zi_as, zi_len, zi_new, zi_na, zi_mx, zi_mn, zi_sw, zi_swx, zi_cv, zi_cs, zi_ci, zi_obj, zi_iret, zi_lret, zi_zret, zi_aret, zi_vret, zm_s1, zm_s2, zm_k, zm_tk, zm_Rt, zm_is, List.getElem?_cons_zero, List.getElem?_cons_succ, List.set_cons_zero, List.set_cons_succ, List.length_cons, List.length_nil, List.map_cons, List.map_nil, List.sum_cons, List.sum_nil, List.nil_append, List.cons_append, Option.toList, Value.category, reduceIte, Nat.reduceAdd, Nat.reduceLeDiff, Nat.reduceLT, Nat.reduceEqDiff, Nat.reduceMul, and_true, true_and, and_self, Nat.zero_add, Nat.add_zero, Nat.le_refl, true_or, or_true, not_true_eq_false, not_false_eq_true, zm_ft_int, zm_ft_long, zm_ft_ref, zm_ft_null, zm_ft_b0, zm_ft_b1, i_2, i_3, i_4, i_10, io_16, io_64, io_33, io_2, cF_ev, cF_bm, va_rf, cH_0, cH_1, cH_2, cH_3, cH_4, cH_5, uT4, uT5, uT6, uT7, uB1, uB2, uB3, uG, uV, mH_0, mH_1, mH_2, mH_3, mH_4, mH_5, mH_6, mH_7, mH_8, mH_9, mH_10, mH_11, mH_12, mH_13, mH_14, mH_15, mH_16, mH_17, mH_18, mH_19, mH_20, mH_21, vI0, vI1, vI2, vI3, vI5, vI17, vI18, vI19, vA4, vA6, vA7, vA8, vA9, vA10, vA11, vA12, vA13, vA14, vA15, vA16, vA20, vA21, vA22, vA23, vA24, vA25, vA26, vA27, vD]
      refine zm_call.of (ctR_isEvent h0.2.2.2.2.2.1.2.1 (nI k)) (Nat.le_refl _) (Nat.le_refl _) ?_
      simp only [zi_push, zi_ldi, zi_ldl, zi_lda, zi_sti, zi_stl, zi_sta, zi_inc, zi_b, zi_d, zi_u, zi_bl, zi_dl, zi_ul, zi_lcmp, zi_i2l, zi_l2i, zi_if, zi_ic, zi_nul, zi_dup, zi_pop, zi_dup_x1, zi_dup2, zi_gf, zi_pf, zi_ia, zi_is, zi_la, zi_lst, zi_aa, zi_as, zi_len, zi_new, zi_na, zi_mx, zi_mn, zi_sw, zi_swx, zi_cv, zi_cs, zi_ci, zi_obj, zi_iret, zi_lret, zi_zret, zi_aret, zi_vret, zm_s1, zm_s2, zm_k, zm_tk, zm_Rt, zm_is, List.getElem?_cons_zero, List.getElem?_cons_succ, List.set_cons_zero, List.set_cons_succ, List.length_cons, List.length_nil, List.map_cons, List.map_nil, List.sum_cons, List.sum_nil, List.nil_append, List.cons_append, Option.toList, Value.category, reduceIte, Nat.reduceAdd, Nat.reduceLeDiff, Nat.reduceLT, Nat.reduceEqDiff, Nat.reduceMul, and_true, true_and, and_self, Nat.zero_add, Nat.add_zero, Nat.le_refl, true_or, or_true, not_true_eq_false, not_false_eq_true, zm_ft_int, zm_ft_long, zm_ft_ref, zm_ft_null, zm_ft_b0, zm_ft_b1, i_2, i_3, i_4, i_10, io_16, io_64, io_33, io_2, cF_ev, cF_bm, va_rf, cH_0, cH_1, cH_2, cH_3, cH_4, cH_5, uT4, uT5, uT6, uT7, uB1, uB2, uB3, uG, uV, mH_0, mH_1, mH_2, mH_3, mH_4, mH_5, mH_6, mH_7, mH_8, mH_9, mH_10, mH_11, mH_12, mH_13, mH_14, mH_15, mH_16, mH_17, mH_18, mH_19, mH_20, mH_21, vI0, vI1, vI2, vI3, vI5, vI17, vI18, vI19, vA4, vA6, vA7, vA8, vA9, vA10, vA11, vA12, vA13, vA14, vA15, vA16, vA20, vA21, vA22, vA23, vA24, vA25, vA26, vA27, vD, nI_clamp (show k < 2 ^ 31 by omega), e6]
      exact ⟨fun p => absurd ((noN_in (by omega)).mp p) (noN_nI (by omega) hk), fun _ => ⟨vp_in_nI (by omega) (by decide), fun _ => trivial, fun z => z.elim⟩⟩
end
