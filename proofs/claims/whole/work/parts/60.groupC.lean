/-! the beams taken away -/
theorem relK_at (D : cS) (j a : Nat) : ∀ (m i : Nat) (E : cS), (cE E a 10 = -1001 ∨ ∃ k, i ≤ k ∧ k < i + m ∧ a = cN D j k) → cE (itr (m_rel D j) m i E) a 10 = -1001
  | 0, i, E, h => by
    rcases h with h | ⟨k, h1, h2, h3⟩
    · exact h
    · omega
  | m + 1, i, E, h => by
    rw [itr]
    refine relK_at D j a m (i + 1) _ ?_
    unfold m_rel
    rw [cE_sE]
    by_cases e : a = cN D j i
    · refine Or.inl ?_
      rw [e, up2_eq, if_pos rfl]
    · rw [up2_ne _ _ e]
      rcases h with h | ⟨k, h1, h2, h3⟩
      · exact Or.inl h
      · refine Or.inr ⟨k, ?_, by omega, h3⟩
        rcases Nat.eq_or_lt_of_le h1 with h | h
        · rw [← h] at h3
          exact absurd h3 e
        · exact h
theorem relJ_M (j : Nat) (D : cS) : cM (c_relJ j D) = cM D := itr_keep cM (m_rel D j) (fun i E => by unfold m_rel; rw [cM_sE]) _ _ _
theorem relJ_N (j : Nat) (D : cS) : cN (c_relJ j D) = cN D := itr_keep cN (m_rel D j) (fun i E => by unfold m_rel; rw [cN_sE]) _ _ _
theorem relJs_at (C : cS) (a : Nat) : ∀ (m i : Nat) (E : cS), cM E = cM C → cN E = cN C → (cE E a 10 = -1001 ∨ ∃ b k, i ≤ b ∧ b < i + m ∧ k < csz C b ∧ a = cN C b k) → cE (itr c_relJ m i E) a 10 = -1001
  | 0, i, E, _, _, h => by
    rcases h with h | ⟨b, k, h1, h2, h3, h4⟩
    · exact h
    · omega
  | m + 1, i, E, hM, hN, h => by
    rw [itr]
    refine relJs_at C a m (i + 1) _ (by rw [relJ_M]; exact hM) (by rw [relJ_N]; exact hN) ?_
    have hz : csz E i = csz C i := by unfold csz; rw [hM]
    rcases h with h | ⟨b, k, h1, h2, h3, h4⟩
    · refine Or.inl ?_
      unfold c_relJ
      exact relK_at E i a _ _ _ (Or.inl h)
    · rcases Nat.eq_or_lt_of_le h1 with h | h
      · subst h
        refine Or.inl ?_
        unfold c_relJ
        exact relK_at E i a _ _ _ (Or.inr ⟨k, by omega, by omega, by rw [hN]; exact h4⟩)
      · exact Or.inr ⟨b, k, h, by omega, h3, h4⟩
theorem take_E10 {C : cS} {M : mS} {ec bc gc : Nat} (h : rR C M ec bc gc) {e : Nat} (he : e < ec) : cE (c_take C bc) e 10 = -1001 := by
  unfold c_take
  rw [cE_sT]
  refine relJs_at C e bc 0 C rfl rfl ?_
  rcases h.2.2.2.2.2.2.2.2.2 e he with h | ⟨b, k, h1, h2, h3⟩
  · exact Or.inl h
  · exact Or.inr ⟨b, k, by omega, by omega, h2, h3⟩
theorem take_rel {C : cS} {M M' : mS} {ec bc gc : Nat} (h : rR C M ec bc gc) (hA : mA M' = mA M) (h5 : mI M' 5 = mI M 5) (h3 : mI M' 3 = mI M 3) (h2 : mI M' 2 = mI M 2) (h17 : mI M' 17 = mI M 17) (h19 : mI M' 19 = mI M 19) (h18 : mI M' 18 = 0) : rR (c_take C bc) M' ec 0 gc := by
  have h' := h
  obtain ⟨r1, r2, r3, r4, r5, r6, r7, r8, r9, r10⟩ := h
  have t : cT (c_take C bc) = upd (cT C) 5 0 := by rw [c_take_T]
  refine ⟨cRows_of (by rw [c_take_M]) (by rw [c_take_N]) r1, by rw [t, upd_ne _ _ (by decide)]; exact r2, by rw [t, upd_at]; rfl, by rw [h18]; rfl, by omega, ?_, ?_, ?_, fun b hb => absurd hb (by omega), fun e he => Or.inl (take_E10 h' he)⟩
  · exact eR_C (D := C) (fun a k hk => c_take_E C bc a (by omega)) (eR_of (M := M) h5 (fun k _ _ => by rw [hA]) r6)
  · exact gR_keep (C := C) (M := M) (c_take_B C bc) (c_take_G C bc) h3 h2 (by rw [hA]) r7
  · obtain ⟨v1, v2, v3, v4, v5⟩ := r8
    unfold vR
    rw [t, upd_ne _ _ (by decide), upd_ne _ _ (by decide), hA, c_take_V, h17, h19]
    exact ⟨v1, v2, v3, v4, v5⟩
/-! a whole voice -/
theorem itr_inv {α : Type} (P : Nat → α → Prop) (F : Nat → α → α) (N : Nat) (h : ∀ i a, i < N → P i a → P (i + 1) (F i a)) : ∀ (m i : Nat) (a : α), i + m = N → P i a → P N (itr F m i a)
  | 0, i, a, hi, hp => by
    have : i = N := by omega
    rw [← this]
    exact hp
  | m + 1, i, a, hi, hp => itr_inv P F N h m (i + 1) _ (by omega) (h i a (by omega) hp)
def r_gvZ (v : Int32) (gc ec : Nat) (C : cS) (M : mS) : (cS × Nat × Int32) × mS := itr (r_gvS v gc) ec 0 ((c_next C, c_nextB C, 1), M)
def r_gv (v : Int32) (gc ec : Nat) (C : cS) (M : mS) : mS := r_ends (r_gvZ v gc ec C M).1.1 (r_gvZ v gc ec C M).2 (r_gvZ v gc ec C M).1.2.1
theorem itr_fst {α β : Type} (F : Nat → α → α) (G : Nat → α × β → α × β) (h : ∀ i z, (G i z).1 = F i z.1) : ∀ (m i : Nat) (z : α × β), (itr G m i z).1 = itr F m i z.1
  | 0, _, _ => rfl
  | m + 1, i, z => by rw [itr, itr, itr_fst F G h m (i + 1), h]
theorem gvZ_1 (v : Int32) (gc ec : Nat) (C : cS) (M : mS) : (r_gvZ v gc ec C M).1 = itr (c_gvK v gc) ec 0 (c_next C, c_nextB C, 1) := itr_fst _ _ (fun i z => rfl) _ _ _
theorem kR_start {C : cS} {M : mS} {ec gc b0 c0 : Nat} {v : Int32} (h : rR C M ec b0 gc) (h10 : ∀ e, e < ec → cE C e 1 = v → cE C e 10 = -1001) (hb : 2 * b0 ≤ c0) : kR C (c_next C) M ec gc v c0 0 (c_nextB C) 1 (-1) 0 0 := by
  obtain ⟨n1, n2, n3⟩ := next_q (i := 0) (v := v) h (fun e _ => h10 e)
  obtain ⟨g1, g2, g3⟩ := next_I h.2.1 h.2.2.2.2.2.2.1.2.2.1 h.1 h.2.2.2.2.1 h.2.2.1 hb
  rw [n1]
  refine ⟨gI_mono g3 (by omega), fun a k _ => by rw [c_next_E], n3, Or.inl ⟨n2, rfl⟩, Or.inl ⟨rfl, rfl, rfl⟩, fun e _ => by rw [c_next_E]⟩
theorem kR_end {C : cS} {M : mS} {ec gc b0 c0 : Nat} {v : Int32} (h : rR C M ec b0 gc) (h10 : ∀ e, e < ec → cE C e 1 = v → cE C e 10 = -1001) (hb : 2 * b0 ≤ c0) (hec : ec ≤ 64) (hcnt : c0 + cvN (cE C) v ec ≤ 64) : ∃ la rs lg, kR C (r_gvZ v gc ec C M).1.1 (r_gvZ v gc ec C M).2 ec gc v c0 ec (r_gvZ v gc ec C M).1.2.1 (r_gvZ v gc ec C M).1.2.2 la rs lg := by
  refine itr_inv (fun i z => ∃ la rs lg, kR C z.1.1 z.2 ec gc v c0 i z.1.2.1 z.1.2.2 la rs lg) (r_gvS v gc) ec (fun i z hi hz => ?_) ec 0 ((c_next C, c_nextB C, 1), M) (by omega) ⟨-1, 0, 0, kR_start h h10 hb⟩
  obtain ⟨la, rs, lg, hk⟩ := hz
  exact ⟨_, _, _, k_step hk hi hec hcnt⟩
theorem gv_rel {C : cS} {M : mS} {ec gc b0 c0 : Nat} {v : Int32} (h : rR C M ec b0 gc) (h10 : ∀ e, e < ec → cE C e 1 = v → cE C e 10 = -1001) (hb : 2 * b0 ≤ c0) (hec : ec ≤ 64) (hcnt : c0 + cvN (cE C) v ec ≤ 64) : ∃ b, 2 * b ≤ c0 + cvN (cE C) v ec ∧ cT (c_gv C v gc ec) 5 = nI b ∧ rR (c_gv C v gc ec) (r_gv v gc ec C M) ec b gc ∧ (∀ a k, (k < 10 ∨ 15 < k) → cE (c_gv C v gc ec) a k = cE C a k) ∧ ∀ e, (¬ cE C e 1 = v) → cE (c_gv C v gc ec) e 10 = cE C e 10 := by
  obtain ⟨la, rs, lg, k1, k2, k3, k4, k5, k6⟩ := kR_end (v := v) (c0 := c0) h h10 hb hec hcnt
  obtain ⟨f1, f2, f3, b, f4, f5, f6⟩ := fin_I k1 hcnt
  obtain ⟨j', j1, j2, j3⟩ := fin_q k3 ⟨b, f4, f5⟩
  have hb' : j' = b := by
    have := j2.2.2.2.2.1
    rw [j1, nI_eq (by omega) (by omega)] at f5
    exact f5
  subst hb'
  have e : c_gv C v gc ec = c_fin (r_gvZ v gc ec C M).1.1 (r_gvZ v gc ec C M).1.2.1 := by
    unfold c_gv
    rw [gvZ_1]
  rw [e]
  refine ⟨j', f6, j1, j2, fun a k hk => ?_, fun e he => ?_⟩
  · rw [c_fin_E _ _ _ hk]
    exact k2 a k hk
  · rw [fin_out e 10 (fun k hk r => he ?_)]
    · exact k6 e he
    · have := (k3.2.2.1 k hk).2.1
      rw [← r, k2 e 1 (by omega)] at this
      exact this
section
variable {w : zW} {f : Nat → Option zO} {q : Nat} {n : Nat × Nat} {Γ : zC} {Rt : zR}
theorem gvoice (X : zm_X w Γ mX4_group n.1 n.2 Rt) {C : cS} {M : mS} {ec gc b0 c0 v : Nat} (hv : v < 2) (h : rR C M ec b0 gc) (h10 : ∀ e, e < ec → cE C e 1 = nI v → cE C e 10 = -1001) (hb : 2 * b0 ≤ c0) (hec : ec ≤ 64) (hcnt : c0 + cvN (cE C) (nI v) ec ≤ 64) (K : ∀ r2 r3 r4 r5 r6 r7 r8 : Option Value, zm_V w Γ 17 [some (.ref q), some (.int (nI (v + 1))), r2, r3, r4, r5, r6, r7, r8] [] (mH f q (r_gv (nI v) gc ec C M), n)) (r2 r3 r4 r5 r6 r7 r8 : Option Value) : zm_V w Γ 17 [some (.ref q), some (.int (nI v)), r2, r3, r4, r5, r6, r7, r8] [] (mH f q M, n) := by
  have key : ∀ (m i : Nat) (D : cS) (j : Nat) (rc la rs lg : Int32) (M' : mS) (r7 r8 : Option Value), i + m = ec → kR C D M' ec gc (nI v) c0 i j rc la rs lg → itr (r_gvS (nI v) gc) m i ((D, j, rc), M') = r_gvZ (nI v) gc ec C M → zm_V w Γ 35 [some (.ref q), some (.int (nI v)), some (.int la), some (.int rs), some (.int lg), some (.int (nI (csz D j))), some (.int (nI i)), r7, r8] [] (mH f q M', n) := by
    intro m
    induction m with
    | zero =>
      intro i D j rc la rs lg M' r7 r8 h1 hk h2
      rw [itr] at h2
      obtain ⟨k1, k2, k3, k4, k5, k6⟩ := hk
      refine bkX4_group_35 X _ _ _ ?_
      simp only [zi_push, zi_ldi, zi_ldl, zi_lda, zi_sti, zi_stl, zi_sta, zi_inc, zi_b, zi_d, zi_u, zi_bl, zi_dl, zi_ul, zi_lcmp, zi_i2l, zi_l2i, zi_if, zi_ic, zi_nul, zi_dup, zi_pop, zi_dup_x1, zi_dup2, zi_gf, zi_pf, zi_ia, zi_is, zi_la, zi_lst, zi_aa, zi_as, zi_len, zi_new, zi_na, zi_mx, zi_mn, zi_sw, zi_swx, zi_cv, zi_cs, zi_ci, zi_obj, zi_iret, zi_lret, zi_zret, zi_aret, zi_vret, zm_s1, zm_s2, zm_k, zm_tk, zm_Rt, zm_is, List.getElem?_cons_zero, List.getElem?_cons_succ, List.set_cons_zero, List.set_cons_succ, List.length_cons, List.length_nil, List.map_cons, List.map_nil, List.sum_cons, List.sum_nil, List.nil_append, List.cons_append, Option.toList, Value.category, reduceIte, Nat.reduceAdd, Nat.reduceLeDiff, Nat.reduceLT, Nat.reduceEqDiff, Nat.reduceMul, and_true, true_and, and_self, Nat.zero_add, Nat.add_zero, Nat.le_refl, true_or, or_true, not_true_eq_false, not_false_eq_true, zm_ft_int, zm_ft_long, zm_ft_ref, zm_ft_null, zm_ft_b0, zm_ft_b1, i_2, i_3, i_4, i_10, io_16, io_64, io_33, io_2, cF_ev, cF_bm, va_rf, cH_0, cH_1, cH_2, cH_3, cH_4, cH_5, uT4, uT5, uT6, uT7, uB1, uB2, uB3, uG, uV, mH_0, mH_1, mH_2, mH_3, mH_4, mH_5, mH_6, mH_7, mH_8, mH_9, mH_10, mH_11, mH_12, mH_13, mH_14, mH_15, mH_16, mH_17, mH_18, mH_19, mH_20, mH_21, vI0, vI1, vI2, vI3, vI5, vI17, vI18, vI19, vA4, vA6, vA7, vA8, vA9, vA10, vA11, vA12, vA13, vA14, vA15, vA16, vA20, vA21, vA22, vA23, vA24, vA25, vA26, vA27, vD, k3.1.2.2.2.2.2.1.2.1]
      refine ⟨fun _ => ?_, fun p => absurd (nI_le (by omega) (by omega)) p⟩
      refine zm_call.of (ctR_ends k3.1.2.2.2.2.2.1 k3.1.2.2.2.2.2.2.2.1.2.1 k3.2.1 k3.1.2.2.2.1) (Nat.le_refl _) (Nat.le_refl _) ?_
      simp only [zi_push, zi_ldi, zi_ldl, zi_lda, zi_sti, zi_stl, zi_sta, zi_inc, zi_b, zi_d, zi_u, zi_bl, zi_dl, zi_ul, zi_lcmp, zi_i2l, zi_l2i, zi_if, zi_ic, zi_nul, zi_dup, zi_pop, zi_dup_x1, zi_dup2, zi_gf, zi_pf, zi_ia, zi_is, zi_la, zi_lst, zi_aa, zi_as, zi_len, zi_new, zi_na, zi_mx, zi_mn, zi_sw, zi_swx, zi_cv, zi_cs, zi_ci, zi_obj, zi_iret, zi_lret, zi_zret, zi_aret, zi_vret, zm_s1, zm_s2, zm_k, zm_tk, zm_Rt, zm_is, List.getElem?_cons_zero, List.getElem?_cons_succ, List.set_cons_zero, List.set_cons_succ, List.length_cons, List.length_nil, List.map_cons, List.map_nil, List.sum_cons, List.sum_nil, List.nil_append, List.cons_append, Option.toList, Value.category, reduceIte, Nat.reduceAdd, Nat.reduceLeDiff, Nat.reduceLT, Nat.reduceEqDiff, Nat.reduceMul, and_true, true_and, and_self, Nat.zero_add, Nat.add_zero, Nat.le_refl, true_or, or_true, not_true_eq_false, not_false_eq_true, zm_ft_int, zm_ft_long, zm_ft_ref, zm_ft_null, zm_ft_b0, zm_ft_b1, i_2, i_3, i_4, i_10, io_16, io_64, io_33, io_2, cF_ev, cF_bm, va_rf, cH_0, cH_1, cH_2, cH_3, cH_4, cH_5, uT4, uT5, uT6, uT7, uB1, uB2, uB3, uG, uV, mH_0, mH_1, mH_2, mH_3, mH_4, mH_5, mH_6, mH_7, mH_8, mH_9, mH_10, mH_11, mH_12, mH_13, mH_14, mH_15, mH_16, mH_17, mH_18, mH_19, mH_20, mH_21, vI0, vI1, vI2, vI3, vI5, vI17, vI18, vI19, vA4, vA6, vA7, vA8, vA9, vA10, vA11, vA12, vA13, vA14, vA15, vA16, vA20, vA21, vA22, vA23, vA24, vA25, vA26, vA27, vD, nI_1]
      have e : r_ends D M' j = r_gv (nI v) gc ec C M := by
        unfold r_gv
        rw [← h2]
      rw [e]
      exact K _ _ _ _ _ _ _
    | succ m ih =>
      intro i D j rc la rs lg M' r7 r8 h1 hk h2
      rw [itr] at h2
      refine gstep X hk (by omega) hec hcnt r7 r8 (fun r7 r8 => ?_)
      exact ih (i + 1) _ _ _ _ _ _ _ _ _ (by omega) (k_step hk (by omega) hec hcnt) h2
  refine bkX4_group_17 X _ _ _ ?_
  simp only [zi_push, zi_ldi, zi_ldl, zi_lda, zi_sti, zi_stl, zi_sta, zi_inc, zi_b, zi_d, zi_u, zi_bl, zi_dl, zi_ul, zi_lcmp, zi_i2l, zi_l2i, zi_if, zi_ic, zi_nul, zi_dup, zi_pop, zi_dup_x1, zi_dup2, zi_gf, zi_pf, zi_ia, zi_is, zi_la, zi_lst, zi_aa, zi_as, zi_len, zi_new, zi_na, zi_mx, zi_mn, zi_sw, zi_swx, zi_cv, zi_cs, zi_ci, zi_obj, zi_iret, zi_lret, zi_zret, zi_aret, zi_vret, zm_s1, zm_s2, zm_k, zm_tk, zm_Rt, zm_is, List.getElem?_cons_zero, List.getElem?_cons_succ, List.set_cons_zero, List.set_cons_succ, List.length_cons, List.length_nil, List.map_cons, List.map_nil, List.sum_cons, List.sum_nil, List.nil_append, List.cons_append, Option.toList, Value.category, reduceIte, Nat.reduceAdd, Nat.reduceLeDiff, Nat.reduceLT, Nat.reduceEqDiff, Nat.reduceMul, and_true, true_and, and_self, Nat.zero_add, Nat.add_zero, Nat.le_refl, true_or, or_true, not_true_eq_false, not_false_eq_true, zm_ft_int, zm_ft_long, zm_ft_ref, zm_ft_null, zm_ft_b0, zm_ft_b1, i_2, i_3, i_4, i_10, io_16, io_64, io_33, io_2, cF_ev, cF_bm, va_rf, cH_0, cH_1, cH_2, cH_3, cH_4, cH_5, uT4, uT5, uT6, uT7, uB1, uB2, uB3, uG, uV, mH_0, mH_1, mH_2, mH_3, mH_4, mH_5, mH_6, mH_7, mH_8, mH_9, mH_10, mH_11, mH_12, mH_13, mH_14, mH_15, mH_16, mH_17, mH_18, mH_19, mH_20, mH_21, vI0, vI1, vI2, vI3, vI5, vI17, vI18, vI19, vA4, vA6, vA7, vA8, vA9, vA10, vA11, vA12, vA13, vA14, vA15, vA16, vA20, vA21, vA22, vA23, vA24, vA25, vA26, vA27, vD]
  refine ⟨fun p => absurd p (nI_ge (a := v) (b := 2) (by omega) (by decide)), fun _ => ?_⟩
  have hs := kR_start (v := nI v) (c0 := c0) h h10 hb
  have hz : csz (c_next C) (c_nextB C) = 0 := by
    obtain ⟨n1, n2, n3⟩ := next_q (i := 0) (v := nI v) h (fun e _ => h10 e)
    rw [n1]
    exact n2
  have := key ec 0 (c_next C) (c_nextB C) 1 (-1) 0 0 M r7 r8 (by omega) hs rfl
  rw [hz] at this
  exact this
def r_g0 (M : mS) : mS := tI (tI (tI M 0 0) 18 0) 19 0
def r_group (C : cS) (M : mS) (ec bc gc : Nat) : mS := r_gv 1 gc ec (c_gv (c_g1 C bc) 0 gc ec) (r_gv 0 gc ec (c_g1 C bc) (r_g0 M))
theorem group_rel {C : cS} {M : mS} {ec bc gc : Nat} (h : rR C M ec bc gc) : ∃ b1 b2, rR (c_g1 C bc) (r_g0 M) ec 0 gc ∧ rR (c_gv (c_g1 C bc) 0 gc ec) (r_gv 0 gc ec (c_g1 C bc) (r_g0 M)) ec b1 gc ∧ rR (c_group C bc gc ec) (r_group C M ec bc gc) ec b2 gc ∧ (∀ e, e < ec → cE (c_g1 C bc) e 10 = -1001) ∧ (∀ e, e < ec → cE (c_gv (c_g1 C bc) 0 gc ec) e 1 = 1 → cE (c_gv (c_g1 C bc) 0 gc ec) e 10 = -1001) ∧ 2 * b1 ≤ cvN (cE (c_g1 C bc)) 0 ec ∧ cvN (cE (c_g1 C bc)) 0 ec + cvN (cE (c_gv (c_g1 C bc) 0 gc ec)) 1 ec ≤ 64 := by
  have hec : ec ≤ 64 := h.2.2.2.2.2.1.1
  have ht := take_rel (M' := tI (tI M 0 0) 18 0) h rfl rfl rfl rfl rfl rfl rfl
  have h1 : rR (c_g1 C bc) (r_g0 M) ec 0 gc := by
    obtain ⟨r1, r2, r3, r4, r5, r6, r7, r8, r9, r10⟩ := ht
    refine ⟨r1, r2, r3, r4, r5, eR_C (D := c_take C bc) (fun a k _ => rfl) (eR_of (M := tI (tI M 0 0) 18 0) rfl (fun k _ _ => rfl) r6), gR_keep (C := c_take C bc) (M := tI (tI M 0 0) 18 0) rfl rfl rfl rfl rfl r7, ?_, fun b hb => absurd hb (by omega), fun e he => Or.inl (take_E10 h he)⟩
    obtain ⟨v1, v2, v3, v4, v5⟩ := r8
    exact ⟨v1, v2, v3, v4, by
      show upd (mI (tI (tI M 0 0) 18 0)) 19 0 19 = upd (cT (c_take C bc)) 6 0 6
      rw [upd_at, upd_at]⟩
  have h10 : ∀ e, e < ec → cE (c_g1 C bc) e 10 = -1001 := fun e he => take_E10 h he
  have hsum := cvN_sum (cE (c_g1 C bc)) ec
  obtain ⟨b1, p1, p2, p3, p4, p5⟩ := gv_rel (v := 0) (c0 := 0) h1 (fun e he _ => h10 e he) (by omega) hec (by omega)
  have hcv : cvN (cE (c_gv (c_g1 C bc) 0 gc ec)) 1 ec = cvN (cE (c_g1 C bc)) 1 ec := cvN_congr (fun k => p4 k 1 (by omega)) 1 ec
  have h10' : ∀ e, e < ec → cE (c_gv (c_g1 C bc) 0 gc ec) e 1 = 1 → cE (c_gv (c_g1 C bc) 0 gc ec) e 10 = -1001 := by
    intro e he h1'
    rw [p4 e 1 (by omega)] at h1'
    rw [p5 e (by rw [h1']; decide)]
    exact h10 e he
  obtain ⟨b2, s1, s2, s3, -, -⟩ := gv_rel (v := 1) (c0 := cvN (cE (c_g1 C bc)) 0 ec) p3 h10' (by omega) hec (by rw [hcv]; omega)
  exact ⟨b1, b2, h1, p3, s3, h10, h10', by omega, by rw [hcv]; omega⟩
theorem ctR_group {C : cS} {M : mS} {ec bc gc : Nat} (h : rR C M ec bc gc) : zm_C w mX4_group [.ref q] (mH f q M, n) (some (.int (cT (c_group C bc gc ec) 5))) (mH f q (r_group C M ec bc gc), n) := by
  have hec : ec ≤ 64 := h.2.2.2.2.2.1.1
  obtain ⟨b1, b2, h1, h2, h3, h4, h5, h6, h7⟩ := group_rel h
  refine zm_C.of (mc := 0) (ms := 0) rfl rfl (by decide) (Nat.le_of_ble_eq_true rfl) ?_
  intro Γ X
  have k2 : ∀ r2 r3 r4 r5 r6 r7 r8 : Option Value, zm_V w Γ 17 [some (.ref q), some (.int (nI 2)), r2, r3, r4, r5, r6, r7, r8] [] (mH f q (r_group C M ec bc gc), n) := by
    intro r2 r3 r4 r5 r6 r7 r8
    refine bkX4_group_17 X _ _ _ ?_
    simp only [zi_push, zi_ldi, zi_ldl, zi_lda, zi_sti, zi_stl, zi_sta, zi_inc, zi_b, zi_d, zi_u, zi_bl, zi_dl, zi_ul, zi_lcmp, zi_i2l, zi_l2i, zi_if, zi_ic, zi_nul, zi_dup, zi_pop, zi_dup_x1, zi_dup2, zi_gf, zi_pf, zi_ia, zi_is, zi_la, zi_lst, zi_aa, zi_as, zi_len, zi_new, zi_na, zi_mx, zi_mn, zi_sw, zi_swx, zi_cv, zi_cs, zi_ci, zi_obj, zi_iret, zi_lret, zi_zret, zi_aret, zi_vret, zm_s1, zm_s2, zm_k, zm_tk, zm_Rt, zm_is, List.getElem?_cons_zero, List.getElem?_cons_succ, List.set_cons_zero, List.set_cons_succ, List.length_cons, List.length_nil, List.map_cons, List.map_nil, List.sum_cons, List.sum_nil, List.nil_append, List.cons_append, Option.toList, Value.category, reduceIte, Nat.reduceAdd, Nat.reduceLeDiff, Nat.reduceLT, Nat.reduceEqDiff, Nat.reduceMul, and_true, true_and, and_self, Nat.zero_add, Nat.add_zero, Nat.le_refl, true_or, or_true, not_true_eq_false, not_false_eq_true, zm_ft_int, zm_ft_long, zm_ft_ref, zm_ft_null, zm_ft_b0, zm_ft_b1, i_2, i_3, i_4, i_10, io_16, io_64, io_33, io_2, cF_ev, cF_bm, va_rf, cH_0, cH_1, cH_2, cH_3, cH_4, cH_5, uT4, uT5, uT6, uT7, uB1, uB2, uB3, uG, uV, mH_0, mH_1, mH_2, mH_3, mH_4, mH_5, mH_6, mH_7, mH_8, mH_9, mH_10, mH_11, mH_12, mH_13, mH_14, mH_15, mH_16, mH_17, mH_18, mH_19, mH_20, mH_21, vI0, vI1, vI2, vI3, vI5, vI17, vI18, vI19, vA4, vA6, vA7, vA8, vA9, vA10, vA11, vA12, vA13, vA14, vA15, vA16, vA20, vA21, vA22, vA23, vA24, vA25, vA26, vA27, vD]
    refine ⟨fun _ => ?_, fun p => absurd (by decide) p⟩
    rw [h3.2.2.2.1, h3.2.2.1]
  have k1 := gvoice (f := f) (q := q) (v := 1) X (by omega) h2 h5 h6 hec h7 k2
  have k0 := gvoice (f := f) (q := q) (v := 0) (c0 := 0) X (by omega) h1 (fun e he _ => h4 e he) (by omega) hec (by have := cvN_sum (cE (c_g1 C bc)) ec; show 0 + cvN (cE (c_g1 C bc)) 0 ec ≤ 64; omega) k1
  refine bkX4_group_0 X [some (.ref q), none, none, none, none, none, none, none, none] [] _ ?_
  simp only [zi_push, zi_ldi, zi_ldl, zi_lda, zi_sti, zi_stl, zi_sta, zi_inc, zi_b, zi_d, zi_u, zi_bl, zi_dl, zi_ul, zi_lcmp, zi_i2l, zi_l2i, zi_if, zi_ic, zi_nul, zi_dup, zi_pop, zi_dup_x1, zi_dup2, zi_gf, zi_pf, zi_ia, zi_is, zi_la, zi_lst, zi_aa, zi_as, zi_len, zi_new, zi_na, zi_mx, zi_mn, zi_sw, zi_swx, zi_cv, zi_cs, zi_ci, zi_obj, zi_iret, zi_lret, zi_zret, zi_aret, zi_vret, zm_s1, zm_s2, zm_k, zm_tk, zm_Rt, zm_is, List.getElem?_cons_zero, List.getElem?_cons_succ, List.set_cons_zero, List.set_cons_succ, List.length_cons, List.length_nil, List.map_cons, List.map_nil, List.sum_cons, List.sum_nil, List.nil_append, List.cons_append, Option.toList, Value.category, reduceIte, Nat.reduceAdd, Nat.reduceLeDiff, Nat.reduceLT, Nat.reduceEqDiff, Nat.reduceMul, and_true, true_and, and_self, Nat.zero_add, Nat.add_zero, Nat.le_refl, true_or, or_true, not_true_eq_false, not_false_eq_true, zm_ft_int, zm_ft_long, zm_ft_ref, zm_ft_null, zm_ft_b0, zm_ft_b1, i_2, i_3, i_4, i_10, io_16, io_64, io_33, io_2, cF_ev, cF_bm, va_rf, cH_0, cH_1, cH_2, cH_3, cH_4, cH_5, uT4, uT5, uT6, uT7, uB1, uB2, uB3, uG, uV, mH_0, mH_1, mH_2, mH_3, mH_4, mH_5, mH_6, mH_7, mH_8, mH_9, mH_10, mH_11, mH_12, mH_13, mH_14, mH_15, mH_16, mH_17, mH_18, mH_19, mH_20, mH_21, vI0, vI1, vI2, vI3, vI5, vI17, vI18, vI19, vA4, vA6, vA7, vA8, vA9, vA10, vA11, vA12, vA13, vA14, vA15, vA16, vA20, vA21, vA22, vA23, vA24, vA25, vA26, vA27, vD]
  exact k0 _ _ _ _ _ _ _
end
