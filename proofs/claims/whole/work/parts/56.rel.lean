/-! the relation between class and reference -/
def gR (C : cS) (M : mS) (gc : Nat) : Prop := 1 ≤ gc ∧ gc ≤ 16 ∧ cB C 1 = nI gc ∧ mI M 3 = nI gc ∧ mI M 2 = cB C 2 ∧ (¬ cB C 2 ≤ 0) ∧ (∀ k, k + 1 < gc → mA M 4 (k + 1) = cG C k) ∧ ∀ k, k + 2 < gc → cG C k ≤ cG C (k + 1)
def vR (C : cS) (M : mS) : Prop := mA M 16 0 = cV C 0 ∧ mA M 16 1 = cV C 1 ∧ mI M 17 = cT C 7 ∧ (cT C 7 = 0 ∨ cT C 7 = 1) ∧ mI M 19 = cT C 6
/-- consecutive notes of row b: of one voice, rising, no note of the voice between -/
def bCon (C : cS) (b : Nat) : Prop := (∀ k, k < csz C b → cE C (cN C b k) 1 = cE C (cN C b 0) 1) ∧ ∀ k, k + 1 < csz C b → cN C b k < cN C b (k + 1) ∧ ∀ e, cN C b k < e → e < cN C b (k + 1) → cE C e 1 = cE C (cN C b 0) 1 → cE C e 5 = 0
/-- the numbers of beam b -/
def bNum (C : cS) (M : mS) (b : Nat) : Prop := mA M 23 b = cM C b 3 ∧ mA M 24 b = cM C b 4 ∧ mA M 25 b = cM C b 5 ∧ mA M 26 b = cM C b 7 ∧ mA M 27 b = cM C b 6 ∧ mD M b = cD C b ∧ (cM C b 7 = 0 ∨ cM C b 7 = 1) ∧ inR (cM C b 6) 0 2
/-- its notes know it -/
def bMem (C : cS) (b : Nat) : Prop := ∀ k, k < csz C b → cE C (cN C b k) 10 = nI b ∧ cE C (cN C b k) 11 = nI k
def bW (C : cS) (M : mS) (ec b : Nat) : Prop := bN C M b ec ∧ bA C M b ∧ 2 ≤ csz C b ∧ bNum C M b ∧ bMem C b ∧ bCon C b
def rR (C : cS) (M : mS) (ec bc gc : Nat) : Prop := cRows C ∧ cT C 4 = nI ec ∧ cT C 5 = nI bc ∧ mI M 18 = nI bc ∧ bc ≤ 32 ∧ eR C M ec ∧ gR C M gc ∧ vR C M ∧ (∀ b, b < bc → bW C M ec b) ∧ ∀ e, e < ec → cE C e 10 = -1001 ∨ ∃ b k, b < bc ∧ k < csz C b ∧ e = cN C b k
theorem gR_keep {C C' : cS} {M M' : mS} {gc : Nat} (h1 : cB C' = cB C) (h2 : cG C' = cG C) (h3 : mI M' 3 = mI M 3) (h4 : mI M' 2 = mI M 2) (h5 : mA M' 4 = mA M 4) (h : gR C M gc) : gR C' M' gc := by
  unfold gR
  rw [h1, h2, h3, h4, h5]
  exact h
theorem bW_keep {C C' : cS} {M M' : mS} {ec b : Nat} (hM : ∀ k, cM C' b k = cM C b k) (hN : ∀ k, cN C' b k = cN C b k) (hD : cD C' b = cD C b) (hst : ∀ a k, (k < 10 ∨ 15 < k) → cE C' a k = cE C a k) (hmem : ∀ k, k < csz C b → ∀ x, cE C' (cN C b k) x = cE C (cN C b k) x) (hA : ∀ k, 20 ≤ k → k ≤ 27 → k ≠ 21 → mA M' k b = mA M k b) (h21 : ∀ k, k < 16 → mA M' 21 (16 * b + k) = mA M 21 (16 * b + k)) (hmD : mD M' b = mD M b) (h : bW C M ec b) : bW C' M' ec b := by
  obtain ⟨⟨n1, n2, n3, n4⟩, ⟨a1, a2, a3⟩, s, ⟨u1, u2, u3, u4, u5, u6, u7, u8⟩, m, c1, c2⟩ := h
  have hz : csz C' b = csz C b := congrArg Int32.toNatClampNeg (hM 1)
  refine ⟨⟨n1, by rw [hz]; exact n2, by rw [hz, hA 20 (by omega) (by omega) (by omega)]; exact n3, fun k hk => ?_⟩, ⟨by rw [hA 22 (by omega) (by omega) (by omega), hM]; exact a1, by rw [hM]; exact a2, fun k hk => ?_⟩, by rw [hz]; exact s, ⟨by rw [hA 23 (by omega) (by omega) (by omega), hM]; exact u1, by rw [hA 24 (by omega) (by omega) (by omega), hM]; exact u2, by rw [hA 25 (by omega) (by omega) (by omega), hM]; exact u3, by rw [hA 26 (by omega) (by omega) (by omega), hM]; exact u4, by rw [hA 27 (by omega) (by omega) (by omega), hM]; exact u5, by rw [hmD, hD]; exact u6, by rw [hM]; exact u7, by rw [hM]; exact u8⟩, fun k hk => ?_, fun k hk => ?_, fun k hk => ?_⟩
  · rw [hz] at hk
    rw [hN, h21 k (by omega), hst _ 5 (by omega), hst _ 2 (by omega)]
    exact n4 k hk
  · rw [hz] at hk
    rw [hM, hN]
    exact st_aim (hmem k hk) (a3 k hk)
  · rw [hz] at hk
    rw [hN, hmem k hk, hmem k hk]
    exact m k hk
  · rw [hz] at hk
    rw [hN, hN, hst _ 1 (by omega), hst _ 1 (by omega)]
    exact c1 k hk
  · rw [hz] at hk
    rw [hN, hN, hN]
    obtain ⟨d1, d2⟩ := c2 k hk
    refine ⟨d1, fun e h1 h2 h3 => ?_⟩
    rw [hst _ 1 (by omega), hst _ 1 (by omega)] at h3
    rw [hst _ 5 (by omega)]
    exact d2 e h1 h2 h3
section
variable {w : zW} {f : Nat → Option zO} {q : Nat} {M : mS} {n : Nat × Nat} {C : cS} {ec gc : Nat}
def r_gF (M : mS) (at' : Int32) (k : Nat) (g : Nat) : Nat := if at' < mA M 4 k then g else k
theorem r_gF_keep {M : mS} {x : Int32} (N : Nat) : ∀ (m k g : Nat), k + m ≤ N → (∀ i, k ≤ i → i < N → x < mA M 4 i) → itr (r_gF M x) m k g = g
  | 0, _, _, _, _ => rfl
  | m + 1, k, g, h, hx => by
    rw [itr, r_gF, if_pos (hx k (by omega) (by omega))]
    exact r_gF_keep N m (k + 1) g (by omega) (fun i h1 h2 => hx i (by omega) h2)
theorem gR_mono (hg : gR C M gc) {x : Int32} : ∀ (i k : Nat), k ≤ i → i + 1 < gc → x < cG C k → x < cG C i := by
  intro i
  induction i with
  | zero =>
    intro k h1 h2 h3
    have : k = 0 := by omega
    rw [this] at h3
    exact h3
  | succ i ih =>
    intro k h1 h2 h3
    by_cases h : k = i + 1
    · rw [h] at h3
      exact h3
    · have a := ih k (by omega) (by omega) h3
      have b := hg.2.2.2.2.2.2.2 i (by omega)
      rw [Int32.lt_iff_toInt_lt] at a ⊢
      rw [Int32.le_iff_toInt_le] at b
      omega
theorem r_gF_ga (hg : gR C M gc) (x : Int32) : ∀ (m i : Nat), i + 1 + m = gc → itr (r_gF M x) m (i + 1) i = b_ga (cG C) x m i
  | 0, _, _ => rfl
  | m + 1, i, h => by
    have e := hg.2.2.2.2.2.2.1 i (by omega)
    rw [b_ga]
    by_cases p : x < cG C i
    · rw [if_pos p]
      refine r_gF_keep gc _ _ _ (by omega) (fun a h1 h2 => ?_)
      have ea := hg.2.2.2.2.2.2.1 (a - 1) (by omega)
      rw [show a - 1 + 1 = a by omega] at ea
      rw [ea]
      exact gR_mono hg (a - 1) i (by omega) (by omega) p
    · rw [if_neg p, itr, r_gF, e, if_neg p]
      exact r_gF_ga hg x m (i + 1) (by omega)
theorem ctR_groupOf (he : eR C M ec) (hg : gR C M gc) {i : Nat} (hi : i < ec) : zm_C w mX4_groupOf [.ref q, .int (nI i)] (mH f q M, n) (some (.int (nI (c_grp C gc (cE C i 3))))) (mH f q M, n) := by
  obtain ⟨g1, g2, g3, g4, g5, g6, g7, g8⟩ := hg
  have ho := (he.2.2 i hi).1
  have hec := he.1
  have hb : ¬ cB C 2 = 0 := fun h => g6 (by rw [h]; decide)
  have e : c_grp C gc (cE C i 3) = itr (r_gF M (cE C i 3 - cE C i 3 / cB C 2 * cB C 2)) gc 0 0 := by
    have e1 : gc = gc - 1 + 1 := by omega
    unfold c_grp b_off
    rw [if_neg g6, e1, itr, Nat.add_sub_cancel]
    have e2 : r_gF M (cE C i 3 - cE C i 3 / cB C 2 * cB C 2) 0 0 = 0 := by
      unfold r_gF
      split <;> rfl
    rw [e2, r_gF_ga ⟨g1, g2, g3, g4, g5, g6, g7, g8⟩ _ (gc - 1) 0 (by omega)]
  rw [e]
  refine zm_C.of (mc := 0) (ms := 0) rfl rfl (by decide) (Nat.le_of_ble_eq_true rfl) ?_
  intro Γ X
  have key : ∀ (m k g : Nat), k + m = gc → itr (r_gF M (cE C i 3 - cE C i 3 / cB C 2 * cB C 2)) m k g = itr (r_gF M (cE C i 3 - cE C i 3 / cB C 2 * cB C 2)) gc 0 0 → zm_V w Γ 17 [some (.ref q), some (.int (nI i)), some (.int (cE C i 3 - cE C i 3 / cB C 2 * cB C 2)), some (.int (nI g)), some (.int (nI k))] [] (mH f q M, n) := by
    intro m
    induction m with
    | zero =>
      intro k g h1 h2
      refine bkX4_groupOf_17 X _ _ _ ?_
      simp only [zi_push, zi_ldi, zi_ldl, zi_lda, zi_sti, zi_stl, zi_sta, zi_inc, zi_b, zi_d, zi_u, zi_bl, zi_dl, zi_ul, zi_lcmp, zi_i2l, zi_l2i, zi_if, zi_ic, zi_nul, zi_dup, zi_pop, zi_dup_x1, zi_dup2, zi_gf, zi_pf, zi_ia, zi_is, zi_la, zi_lst, zi_aa, zi_as, zi_len, zi_new, zi_na, zi_mx, zi_mn, zi_sw, zi_swx, zi_cv, zi_cs, zi_ci, zi_obj, zi_iret, zi_lret, zi_zret, zi_aret, zi_vret, zm_s1, zm_s2, zm_k, zm_tk, zm_Rt, zm_is, List.getElem?_cons_zero, List.getElem?_cons_succ, List.set_cons_zero, List.set_cons_succ, List.length_cons, List.length_nil, List.map_cons, List.map_nil, List.sum_cons, List.sum_nil, List.nil_append, List.cons_append, Option.toList, Value.category, reduceIte, Nat.reduceAdd, Nat.reduceLeDiff, Nat.reduceLT, Nat.reduceEqDiff, Nat.reduceMul, and_true, true_and, and_self, Nat.zero_add, Nat.add_zero, Nat.le_refl, true_or, or_true, not_true_eq_false, not_false_eq_true, zm_ft_int, zm_ft_long, zm_ft_ref, zm_ft_null, zm_ft_b0, zm_ft_b1, i_2, i_3, i_4, i_10, io_16, io_64, io_33, io_2, cF_ev, cF_bm, va_rf, cH_0, cH_1, cH_2, cH_3, cH_4, cH_5, uT4, uT5, uT6, uT7, uB1, uB2, uB3, uG, uV, mH_0, mH_1, mH_2, mH_3, mH_4, mH_5, mH_6, mH_7, mH_8, mH_9, mH_10, mH_11, mH_12, mH_13, mH_14, mH_15, mH_16, mH_17, mH_18, mH_19, mH_20, mH_21, vI0, vI1, vI2, vI3, vI5, vI17, vI18, vI19, vA4, vA6, vA7, vA8, vA9, vA10, vA11, vA12, vA13, vA14, vA15, vA16, vA20, vA21, vA22, vA23, vA24, vA25, vA26, vA27, vD, g4]
      refine ⟨fun _ => by rw [← h2]; rfl, fun p => absurd (nI_le (by omega) (by omega)) p⟩
    | succ m ih =>
      intro k g h1 h2
      refine bkX4_groupOf_17 X _ _ _ ?_
      simp only [zi_push, zi_ldi, zi_ldl, zi_lda, zi_sti, zi_stl, zi_sta, zi_inc, zi_b, zi_d, zi_u, zi_bl, zi_dl, zi_ul, zi_lcmp, zi_i2l, zi_l2i, zi_if, zi_ic, zi_nul, zi_dup, zi_pop, zi_dup_x1, zi_dup2, zi_gf, zi_pf, zi_ia, zi_is, zi_la, zi_lst, zi_aa, zi_as, zi_len, zi_new, zi_na, zi_mx, zi_mn, zi_sw, zi_swx, zi_cv, zi_cs, zi_ci, zi_obj, zi_iret, zi_lret, zi_zret, zi_aret, zi_vret, zm_s1, zm_s2, zm_k, zm_tk, zm_Rt, zm_is, List.getElem?_cons_zero, List.getElem?_cons_succ, List.set_cons_zero, List.set_cons_succ, List.length_cons, List.length_nil, List.map_cons, List.map_nil, List.sum_cons, List.sum_nil, List.nil_append, List.cons_append, Option.toList, Value.category, reduceIte, Nat.reduceAdd, Nat.reduceLeDiff, Nat.reduceLT, Nat.reduceEqDiff, Nat.reduceMul, and_true, true_and, and_self, Nat.zero_add, Nat.add_zero, Nat.le_refl, true_or, or_true, not_true_eq_false, not_false_eq_true, zm_ft_int, zm_ft_long, zm_ft_ref, zm_ft_null, zm_ft_b0, zm_ft_b1, i_2, i_3, i_4, i_10, io_16, io_64, io_33, io_2, cF_ev, cF_bm, va_rf, cH_0, cH_1, cH_2, cH_3, cH_4, cH_5, uT4, uT5, uT6, uT7, uB1, uB2, uB3, uG, uV, mH_0, mH_1, mH_2, mH_3, mH_4, mH_5, mH_6, mH_7, mH_8, mH_9, mH_10, mH_11, mH_12, mH_13, mH_14, mH_15, mH_16, mH_17, mH_18, mH_19, mH_20, mH_21, vI0, vI1, vI2, vI3, vI5, vI17, vI18, vI19, vA4, vA6, vA7, vA8, vA9, vA10, vA11, vA12, vA13, vA14, vA15, vA16, vA20, vA21, vA22, vA23, vA24, vA25, vA26, vA27, vD, g4, nI_clamp (show k < 2 ^ 31 by omega), nI_1]
      rw [itr, r_gF] at h2
      refine ⟨fun p => absurd p (nI_ge (by omega) (by omega)), fun _ => ⟨vp_in_nI (by omega) (by decide), fun p => ?_, fun p => ?_⟩⟩
      · rw [if_pos p] at h2
        exact ih (k + 1) g (by omega) h2
      · rw [if_neg p] at h2
        exact ih (k + 1) k (by omega) h2
  refine bkX4_groupOf_0 X [some (.ref q), some (.int (nI i)), none, none, none] [] _ ?_
  simp only [zi_push, zi_ldi, zi_ldl, zi_lda, zi_sti, zi_stl, zi_sta, zi_inc, zi_b, zi_d, zi_u, zi_bl, zi_dl, zi_ul, zi_lcmp, zi_i2l, zi_l2i, zi_if, zi_ic, zi_nul, zi_dup, zi_pop, zi_dup_x1, zi_dup2, zi_gf, zi_pf, zi_ia, zi_is, zi_la, zi_lst, zi_aa, zi_as, zi_len, zi_new, zi_na, zi_mx, zi_mn, zi_sw, zi_swx, zi_cv, zi_cs, zi_ci, zi_obj, zi_iret, zi_lret, zi_zret, zi_aret, zi_vret, zm_s1, zm_s2, zm_k, zm_tk, zm_Rt, zm_is, List.getElem?_cons_zero, List.getElem?_cons_succ, List.set_cons_zero, List.set_cons_succ, List.length_cons, List.length_nil, List.map_cons, List.map_nil, List.sum_cons, List.sum_nil, List.nil_append, List.cons_append, Option.toList, Value.category, reduceIte, Nat.reduceAdd, Nat.reduceLeDiff, Nat.reduceLT, Nat.reduceEqDiff, Nat.reduceMul, and_true, true_and, and_self, Nat.zero_add, Nat.add_zero, Nat.le_refl, true_or, or_true, not_true_eq_false, not_false_eq_true, zm_ft_int, zm_ft_long, zm_ft_ref, zm_ft_null, zm_ft_b0, zm_ft_b1, i_2, i_3, i_4, i_10, io_16, io_64, io_33, io_2, cF_ev, cF_bm, va_rf, cH_0, cH_1, cH_2, cH_3, cH_4, cH_5, uT4, uT5, uT6, uT7, uB1, uB2, uB3, uG, uV, mH_0, mH_1, mH_2, mH_3, mH_4, mH_5, mH_6, mH_7, mH_8, mH_9, mH_10, mH_11, mH_12, mH_13, mH_14, mH_15, mH_16, mH_17, mH_18, mH_19, mH_20, mH_21, vI0, vI1, vI2, vI3, vI5, vI17, vI18, vI19, vA4, vA6, vA7, vA8, vA9, vA10, vA11, vA12, vA13, vA14, vA15, vA16, vA20, vA21, vA22, vA23, vA24, vA25, vA26, vA27, vD, nI_clamp (show i < 2 ^ 31 by omega), ho.2.2.1, g5]
  refine ⟨vp_in_nI (by omega) (by decide), hb, ?_⟩
  exact key gc 0 0 (by omega) rfl
end
