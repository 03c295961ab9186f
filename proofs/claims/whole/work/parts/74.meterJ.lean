/-! meter and clear on both sides -/
section
variable {w : zW} {f : Nat → Option zO} {o q : Nat} {n : Nat × Nat} {C : cS} {M : mS} {ec bc gc : Nat}
theorem gR_of {C' : cS} {M' : mS} {BG : (Nat → Int32) × (Nat → Int32)} {P : Nat → Nat} {U u g : Nat} (hb : bP BG P u (nI (U * u)) g) (hB : cB C' = BG.1) (hG : cG C' = BG.2) (h3 : mI M' 3 = nI g) (h2 : mI M' 2 = nI (U * u)) (h4 : ∀ k, k < g → mA M' 4 k = nI (P k * u)) (hg1 : 1 ≤ g) (hg : g ≤ 16) (hU1 : 1 ≤ U) (hU : U ≤ 16) (hu1 : 16 ≤ u) (hu : u ≤ 128) (hP : ∀ k, k < g → P k ≤ P (k + 1) ∧ P (k + 1) ≤ U) : gR C' M' g := by
  obtain ⟨b1, b2, b3, b4⟩ := hb
  have hUu : U * u ≤ 16 * 128 := Nat.mul_le_mul hU hu
  have hpos : 0 < U * u := Nat.mul_pos (by omega) (by omega)
  refine ⟨hg1, hg, by rw [hB]; exact b1, h3, by rw [hB, h2, b2], by rw [hB, b2]; exact nI_nle hpos (by omega), fun k hk => ?_, fun k hk => ?_⟩
  · rw [h4 (k + 1) hk, hG, b4 k (by omega)]
  · rw [hG, b4 k (by omega), b4 (k + 1) (by omega)]
    have p := hP (k + 1) (by omega)
    have p' : P (k + 1 + 1) * u ≤ U * u := Nat.mul_le_mul_right u p.2
    exact nI_le (Nat.mul_le_mul_right u p.1) (by omega)
theorem bc_0 (h : rR C M 0 bc gc) : bc = 0 := by
  rcases Nat.eq_zero_or_pos bc with z | z
  · exact z
  · have hw := h.2.2.2.2.2.2.2.2.1 0 z
    have := (hw.1.2.2.2 0 (by have := hw.2.2.1; omega)).2.1
    omega
/-- no event: only the meter and the clocks matter -/
theorem empty_rel {C' : cS} {M' : mS} {g : Nat} (hr : cRows C') (h4 : cT C' 4 = 0) (h5 : cT C' 5 = 0) (h18 : mI M' 18 = 0) (hm5 : mI M' 5 = 0) (hg : gR C' M' g) (hv : vR C' M') (hv0 : inR (cV C' 0) 0 0) (hv1 : inR (cV C' 1) 0 0) : RR C' M' 0 0 g := by
  refine ⟨⟨hr, h4, h5, h18, by omega, ⟨by omega, hm5, fun i hi => absurd hi (by omega)⟩, hg, hv, fun b hb => absurd hb (by omega), fun e he => absurd he (by omega)⟩, ⟨inR_w hv0 (by omega) (by omega), inR_w hv1 (by omega) (by omega)⟩, bB_0 _⟩
theorem meter_rel (h : RR C M 0 bc gc) {BG : (Nat → Int32) × (Nat → Int32)} {P : Nat → Nat} {U u g : Nat} (hb : bP BG P u (nI (U * u)) g) (hg1 : 1 ≤ g) (hg : g ≤ 16) (hU1 : 1 ≤ U) (hU : U ≤ 16) (hu1 : 16 ≤ u) (hu : u ≤ 128) (hP : ∀ k, k < g → P k ≤ P (k + 1) ∧ P (k + 1) ≤ U) : RR (sBG C BG) (tI (r_ms (tI M 0 0) P U u g) 18 0) 0 0 g := by
  have hbc := bc_0 h.1
  subst hbc
  obtain ⟨⟨r1, r2, r3, r4, r5, ⟨he1, he2, he3⟩, r7, ⟨v1, v2, v3, v4, v5⟩, r9, r10⟩, hv, -⟩ := h
  obtain ⟨k1, k2, k3, k4, k5⟩ := ms_keep (tI M 0 0) P U u g
  have eI : ∀ y, y ≠ 18 → mI (tI (r_ms (tI M 0 0) P U u g) 18 0) y = mI (r_ms (tI M 0 0) P U u g) y := fun y hy => by rw [mI_tI, upd_ne _ _ hy]
  have eI' : ∀ y, y ≠ 18 → y ≠ 0 → y ≠ 1 → y ≠ 2 → y ≠ 3 → mI (tI (r_ms (tI M 0 0) P U u g) 18 0) y = mI M y := fun y a0 a1 a2 a3 a4 => by
    rw [eI y a0, k2 y a2 a3 a4, mI_tI, upd_ne _ _ a1]
  have eA : ∀ y, y ≠ 4 → mA (tI (r_ms (tI M 0 0) P U u g) 18 0) y = mA M y := fun y hy => by
    rw [mA_tI, k1 y hy, mA_tI]
  refine empty_rel (C' := sBG C BG) (cRows_of rfl rfl r1) r2 r3 (by rw [mI_tI, upd_at]) ?_ (gR_of hb rfl rfl ?_ ?_ ?_ hg1 hg hU1 hU hu1 hu hP) ⟨?_, ?_, ?_, v4, ?_⟩ ?_ ?_
  · rw [eI' 5 (by decide) (by decide) (by decide) (by decide) (by decide)]
    exact he2
  · rw [eI 3 (by decide)]
    exact k4
  · rw [eI 2 (by decide)]
    exact k3
  · intro k hk
    rw [mA_tI]
    exact k5 k hk
  · rw [eA 16 (by decide)]
    exact v1
  · rw [eA 16 (by decide)]
    exact v2
  · rw [eI' 17 (by decide) (by decide) (by decide) (by decide) (by decide)]
    exact v3
  · rw [eI' 19 (by decide) (by decide) (by decide) (by decide) (by decide)]
    exact v5
  · exact inR_w hv.1 (by omega) (by omega)
  · exact inR_w hv.2 (by omega) (by omega)
theorem pU_P {U d : Nat} (hU1 : 1 ≤ U) : ∀ k, k < b_many U d → pU U d k ≤ pU U d (k + 1) ∧ pU U d (k + 1) ≤ U := by
  intro k hk
  have h := pU_step (d := d) hU1 hk
  refine ⟨by omega, ?_⟩
  by_cases e : k + 1 = b_many U d
  · rw [e, pU_end]
    exact Nat.le_refl _
  · have := pU_step (d := d) hU1 (show k + 1 < b_many U d by omega)
    omega
theorem pT_P {D G : Nat} (h : ∀ i, i < G → ¬ D / 10 ^ i % 10 = 0) : ∀ k, k < G → pT D G k ≤ pT D G (k + 1) ∧ pT D G (k + 1) ≤ pT D G G := by
  intro k hk
  have h1 := pT_mono h (G - (k + 1)) (k + 1) (by omega)
  refine ⟨?_, by omega⟩
  rw [pT]
  omega
theorem unit_is {d : Int32} (h : ¬ b_unit d ≤ 0) : ∃ k, isD k ∧ d = nI k := by
  unfold b_unit at h
  by_cases h2 : d = 2
  · exact ⟨2, Or.inl rfl, h2⟩
  · rw [if_neg h2] at h
    by_cases h4 : d = 4
    · exact ⟨4, Or.inr (Or.inl rfl), h4⟩
    · rw [if_neg h4] at h
      by_cases h8 : d = 8
      · exact ⟨8, Or.inr (Or.inr (Or.inl rfl)), h8⟩
      · rw [if_neg h8] at h
        by_cases h16 : d = 16
        · exact ⟨16, Or.inr (Or.inr (Or.inr rfl)), h16⟩
        · rw [if_neg h16] at h
          exact absurd (by decide) h
theorem mt_0 {u d g : Int32} (hu : ¬ c_in u 1 16 = 0) (hd : ¬ b_unit d ≤ 0) (h : b_mt u d g = 0) : (¬ u < 1) ∧ (¬ g = 0) ∧ b_dgI g u = 0 := by
  obtain ⟨a, b⟩ := c_in_ne hu
  unfold b_mt at h
  rw [if_neg a, if_neg b, if_neg hd] at h
  by_cases h0 : g = 0
  · rw [if_pos h0] at h
    exact absurd h (by decide)
  · rw [if_neg h0] at h
    by_cases h1 : b_dgI g u = 0
    · exact ⟨a, h0, h1⟩
    · rw [if_neg h1] at h
      exact absurd h (by decide)
theorem mt_1 {u d g : Int32} (h : ¬ b_mt u d g = 0) : (¬ c_in u 1 16 = 0) ∧ (¬ b_unit d ≤ 0) ∧ (g = 0 ∨ ((¬ g ≤ 0) ∧ ¬ b_dgI g u = 0)) := by
  unfold b_mt at h
  by_cases a : u < 1
  · rw [if_pos a] at h
    exact absurd rfl h
  · rw [if_neg a] at h
    by_cases b : 16 < u
    · rw [if_pos b] at h
      exact absurd rfl h
    · rw [if_neg b] at h
      by_cases c : b_unit d ≤ 0
      · rw [if_pos c] at h
        exact absurd rfl h
      · rw [if_neg c] at h
        refine ⟨?_, c, ?_⟩
        · unfold c_in
          rw [if_neg a, if_neg b]
          decide
        · by_cases e : g = 0
          · exact Or.inl e
          · rw [if_neg e] at h
            by_cases z : b_dgI g u = 0
            · rw [if_pos z] at h
              exact absurd rfl h
            · refine Or.inr ⟨fun y => z ?_, z⟩
              unfold b_dgI
              rw [if_pos y, zb, if_neg (fun x => a (by rw [x]; decide))]
theorem unit_d {d : Int32} : (d = 2 ∨ d = 4 ∨ d = 8 ∨ d = 16) ↔ ¬ b_unit d ≤ 0 := by
  constructor
  · rintro (rfl | rfl | rfl | rfl) <;> decide
  · intro h
    obtain ⟨k, hk, rfl⟩ := unit_is h
    rcases hk with rfl | rfl | rfl | rfl
    · exact Or.inl rfl
    · exact Or.inr (Or.inl rfl)
    · exact Or.inr (Or.inr (Or.inl rfl))
    · exact Or.inr (Or.inr (Or.inr rfl))
theorem ctR_meter {u d g : Int32} (x : Int32) (M' : mS) (h5 : mI M 5 = nI ec) (hec : ec ≤ 64)
  (h1 : b_mt u d g = 0 → x = -1003 ∧ M' = tI M 0 0) (h2 : (¬ b_mt u d g = 0) → 0 < ec → x = -1004 ∧ M' = tI M 0 0) (h3 : (¬ b_mt u d g = 0) → ec = 0 → ∃ M1, zm_C w mX4_measure [.ref q, .int u, .int d, .int g] (mH f q (tI M 0 0), n) (some (.int 1)) (mH f q M1, n) ∧ x = mI M1 3 ∧ M' = tI M1 18 0) : zm_C w mX4_meter [.ref q, .int u, .int d, .int g] (mH f q M, n) (some (.int x)) (mH f q M', n) := by
  have e5 : mI (tI M 0 0) 5 = nI ec := h5
  have hz : nI ec ≤ 0 ↔ ec = 0 := nI_le0 (by omega)
  refine zm_C.of (mc := 0) (ms := 0) rfl rfl (by decide) (Nat.le_of_ble_eq_true rfl) ?_
  intro Γ X
  have k43 : (¬ c_in u 1 16 = 0) → (¬ b_unit d ≤ 0) → zm_V w Γ 43 [some (.ref q), some (.int u), some (.int d), some (.int g)] [] (mH f q (tI M 0 0), n) := by
    intro hu hd
    refine bkX4_meter_43 X _ _ _ ?_
    simp only [zi_push, zi_ldi, zi_ldl, zi_lda, zi_sti, zi_stl, zi_sta, zi_inc, zi_b, zi_d, zi_u, zi_bl, zi_dl, zi_ul, zi_lcmp, zi_i2l, zi_l2i, zi_if, zi_ic, zi_nul, zi_dup, zi_pop, zi_dup_x1, zi_dup2, zi_gf, zi_pf, zi_ia, zi_is, zi_la, zi_lst, zi_aa, zi_as, zi_len, zi_new, zi_na, zi_mx, zi_mn, zi_sw, zi_swx, zi_cv, zi_cs, zi_ci, zi_obj, zi_iret, zi_lret, zi_zret, zi_aret, zi_vret, zm_s1, zm_s2, zm_k, zm_tk, zm_Rt, zm_is, List.getElem?_cons_zero, List.getElem?_cons_succ, List.set_cons_zero, List.set_cons_succ, List.length_cons, List.length_nil, List.map_cons, List.map_nil, List.sum_cons, List.sum_nil, List.nil_append, List.cons_append, Option.toList, Value.category, reduceIte, Nat.reduceAdd, Nat.reduceLeDiff, Nat.reduceLT, Nat.reduceEqDiff, Nat.reduceMul, and_true, true_and, and_self, Nat.zero_add, Nat.add_zero, Nat.le_refl, true_or, or_true, not_true_eq_false, not_false_eq_true, zm_ft_int, zm_ft_long, zm_ft_ref, zm_ft_null, zm_ft_b0, zm_ft_b1, i_2, i_3, i_4, i_10, io_16, io_64, io_33, io_2, cF_ev, cF_bm, va_rf, cH_0, cH_1, cH_2, cH_3, cH_4, cH_5, uT4, uT5, uT6, uT7, uB1, uB2, uB3, uG, uV, mH_0, mH_1, mH_2, mH_3, mH_4, mH_5, mH_6, mH_7, mH_8, mH_9, mH_10, mH_11, mH_12, mH_13, mH_14, mH_15, mH_16, mH_17, mH_18, mH_19, mH_20, mH_21, vI0, vI1, vI2, vI3, vI5, vI17, vI18, vI19, vA4, vA6, vA7, vA8, vA9, vA10, vA11, vA12, vA13, vA14, vA15, vA16, vA20, vA21, vA22, vA23, vA24, vA25, vA26, vA27, vD, e5, hz]
    by_cases hm : b_mt u d g = 0
    · obtain ⟨m1, m2, m3⟩ := mt_0 hu hd hm
      obtain ⟨rfl, rfl⟩ := h1 hm
      refine ⟨fun _ => ?_, fun _ => ⟨fun _ => ⟨rfl, rfl⟩, fun a => ⟨fun b => ?_, fun b => ?_⟩⟩⟩
      · refine zm_call.of (ctR_measure0 m1 m2 m3) (Nat.le_refl _) (Nat.le_refl _) ?_
        simp only [zi_push, zi_ldi, zi_ldl, zi_lda, zi_sti, zi_stl, zi_sta, zi_inc, zi_b, zi_d, zi_u, zi_bl, zi_dl, zi_ul, zi_lcmp, zi_i2l, zi_l2i, zi_if, zi_ic, zi_nul, zi_dup, zi_pop, zi_dup_x1, zi_dup2, zi_gf, zi_pf, zi_ia, zi_is, zi_la, zi_lst, zi_aa, zi_as, zi_len, zi_new, zi_na, zi_mx, zi_mn, zi_sw, zi_swx, zi_cv, zi_cs, zi_ci, zi_obj, zi_iret, zi_lret, zi_zret, zi_aret, zi_vret, zm_s1, zm_s2, zm_k, zm_tk, zm_Rt, zm_is, List.getElem?_cons_zero, List.getElem?_cons_succ, List.set_cons_zero, List.set_cons_succ, List.length_cons, List.length_nil, List.map_cons, List.map_nil, List.sum_cons, List.sum_nil, List.nil_append, List.cons_append, Option.toList, Value.category, reduceIte, Nat.reduceAdd, Nat.reduceLeDiff, Nat.reduceLT, Nat.reduceEqDiff, Nat.reduceMul, and_true, true_and, and_self, Nat.zero_add, Nat.add_zero, Nat.le_refl, true_or, or_true, not_true_eq_false, not_false_eq_true, zm_ft_int, zm_ft_long, zm_ft_ref, zm_ft_null, zm_ft_b0, zm_ft_b1, i_2, i_3, i_4, i_10, io_16, io_64, io_33, io_2, cF_ev, cF_bm, va_rf, cH_0, cH_1, cH_2, cH_3, cH_4, cH_5, uT4, uT5, uT6, uT7, uB1, uB2, uB3, uG, uV, mH_0, mH_1, mH_2, mH_3, mH_4, mH_5, mH_6, mH_7, mH_8, mH_9, mH_10, mH_11, mH_12, mH_13, mH_14, mH_15, mH_16, mH_17, mH_18, mH_19, mH_20, mH_21, vI0, vI1, vI2, vI3, vI5, vI17, vI18, vI19, vA4, vA6, vA7, vA8, vA9, vA10, vA11, vA12, vA13, vA14, vA15, vA16, vA20, vA21, vA22, vA23, vA24, vA25, vA26, vA27, vD]
        exact ⟨fun _ => trivial, fun z => z.elim⟩
      · exfalso
        apply a
        rw [Int32.lt_iff_toInt_lt]
        rw [Int32.le_iff_toInt_le] at b
        rcases Int.lt_or_eq_of_le b with z | z
        · exact z
        · exact absurd (Int32.toInt_inj.mp z) m2
      · obtain ⟨D, hD, rfl⟩ := nI_of a
        unfold b_dgI at m3
        rw [if_neg b, nI_clamp hD] at m3
        refine zm_call.of (ctR_isSo hD u) (Nat.le_refl _) (Nat.le_refl _) ?_
        simp only [zi_push, zi_ldi, zi_ldl, zi_lda, zi_sti, zi_stl, zi_sta, zi_inc, zi_b, zi_d, zi_u, zi_bl, zi_dl, zi_ul, zi_lcmp, zi_i2l, zi_l2i, zi_if, zi_ic, zi_nul, zi_dup, zi_pop, zi_dup_x1, zi_dup2, zi_gf, zi_pf, zi_ia, zi_is, zi_la, zi_lst, zi_aa, zi_as, zi_len, zi_new, zi_na, zi_mx, zi_mn, zi_sw, zi_swx, zi_cv, zi_cs, zi_ci, zi_obj, zi_iret, zi_lret, zi_zret, zi_aret, zi_vret, zm_s1, zm_s2, zm_k, zm_tk, zm_Rt, zm_is, List.getElem?_cons_zero, List.getElem?_cons_succ, List.set_cons_zero, List.set_cons_succ, List.length_cons, List.length_nil, List.map_cons, List.map_nil, List.sum_cons, List.sum_nil, List.nil_append, List.cons_append, Option.toList, Value.category, reduceIte, Nat.reduceAdd, Nat.reduceLeDiff, Nat.reduceLT, Nat.reduceEqDiff, Nat.reduceMul, and_true, true_and, and_self, Nat.zero_add, Nat.add_zero, Nat.le_refl, true_or, or_true, not_true_eq_false, not_false_eq_true, zm_ft_int, zm_ft_long, zm_ft_ref, zm_ft_null, zm_ft_b0, zm_ft_b1, i_2, i_3, i_4, i_10, io_16, io_64, io_33, io_2, cF_ev, cF_bm, va_rf, cH_0, cH_1, cH_2, cH_3, cH_4, cH_5, uT4, uT5, uT6, uT7, uB1, uB2, uB3, uG, uV, mH_0, mH_1, mH_2, mH_3, mH_4, mH_5, mH_6, mH_7, mH_8, mH_9, mH_10, mH_11, mH_12, mH_13, mH_14, mH_15, mH_16, mH_17, mH_18, mH_19, mH_20, mH_21, vI0, vI1, vI2, vI3, vI5, vI17, vI18, vI19, vA4, vA6, vA7, vA8, vA9, vA10, vA11, vA12, vA13, vA14, vA15, vA16, vA20, vA21, vA22, vA23, vA24, vA25, vA26, vA27, vD, m3]
        exact ⟨fun _ => trivial, fun z => z.elim⟩
    · obtain ⟨m1, m2, m3⟩ := mt_1 hm
      refine ⟨fun z => ?_, fun z => ?_⟩
      · obtain ⟨M1, c1, rfl, rfl⟩ := h3 hm z
        refine zm_call.of (c1) (Nat.le_refl _) (Nat.le_refl _) ?_
        simp only [zi_push, zi_ldi, zi_ldl, zi_lda, zi_sti, zi_stl, zi_sta, zi_inc, zi_b, zi_d, zi_u, zi_bl, zi_dl, zi_ul, zi_lcmp, zi_i2l, zi_l2i, zi_if, zi_ic, zi_nul, zi_dup, zi_pop, zi_dup_x1, zi_dup2, zi_gf, zi_pf, zi_ia, zi_is, zi_la, zi_lst, zi_aa, zi_as, zi_len, zi_new, zi_na, zi_mx, zi_mn, zi_sw, zi_swx, zi_cv, zi_cs, zi_ci, zi_obj, zi_iret, zi_lret, zi_zret, zi_aret, zi_vret, zm_s1, zm_s2, zm_k, zm_tk, zm_Rt, zm_is, List.getElem?_cons_zero, List.getElem?_cons_succ, List.set_cons_zero, List.set_cons_succ, List.length_cons, List.length_nil, List.map_cons, List.map_nil, List.sum_cons, List.sum_nil, List.nil_append, List.cons_append, Option.toList, Value.category, reduceIte, Nat.reduceAdd, Nat.reduceLeDiff, Nat.reduceLT, Nat.reduceEqDiff, Nat.reduceMul, and_true, true_and, and_self, Nat.zero_add, Nat.add_zero, Nat.le_refl, true_or, or_true, not_true_eq_false, not_false_eq_true, zm_ft_int, zm_ft_long, zm_ft_ref, zm_ft_null, zm_ft_b0, zm_ft_b1, i_2, i_3, i_4, i_10, io_16, io_64, io_33, io_2, cF_ev, cF_bm, va_rf, cH_0, cH_1, cH_2, cH_3, cH_4, cH_5, uT4, uT5, uT6, uT7, uB1, uB2, uB3, uG, uV, mH_0, mH_1, mH_2, mH_3, mH_4, mH_5, mH_6, mH_7, mH_8, mH_9, mH_10, mH_11, mH_12, mH_13, mH_14, mH_15, mH_16, mH_17, mH_18, mH_19, mH_20, mH_21, vI0, vI1, vI2, vI3, vI5, vI17, vI18, vI19, vA4, vA6, vA7, vA8, vA9, vA10, vA11, vA12, vA13, vA14, vA15, vA16, vA20, vA21, vA22, vA23, vA24, vA25, vA26, vA27, vD]
        exact ⟨fun z => absurd z (by decide), fun _ => rfl⟩
      · obtain ⟨rfl, rfl⟩ := h2 hm (by omega)
        rcases m3 with rfl | ⟨m3, m4⟩
        · exact ⟨fun z => absurd z (by decide), fun _ => ⟨fun _ => ⟨rfl, rfl⟩, fun z => absurd (by decide) z⟩⟩
        · have a : ¬ g < 0 := by
            rw [Int32.le_iff_toInt_le] at m3
            rw [Int32.lt_iff_toInt_lt]
            omega
          refine ⟨fun z => absurd z a, fun _ => ⟨fun z => absurd z m3, fun _ => ?_⟩⟩
          obtain ⟨D, hD, rfl⟩ := nI_of a
          unfold b_dgI at m4
          rw [if_neg m3, nI_clamp hD] at m4
          refine zm_call.of (ctR_isSo hD u) (Nat.le_refl _) (Nat.le_refl _) ?_
          simp only [zi_push, zi_ldi, zi_ldl, zi_lda, zi_sti, zi_stl, zi_sta, zi_inc, zi_b, zi_d, zi_u, zi_bl, zi_dl, zi_ul, zi_lcmp, zi_i2l, zi_l2i, zi_if, zi_ic, zi_nul, zi_dup, zi_pop, zi_dup_x1, zi_dup2, zi_gf, zi_pf, zi_ia, zi_is, zi_la, zi_lst, zi_aa, zi_as, zi_len, zi_new, zi_na, zi_mx, zi_mn, zi_sw, zi_swx, zi_cv, zi_cs, zi_ci, zi_obj, zi_iret, zi_lret, zi_zret, zi_aret, zi_vret, zm_s1, zm_s2, zm_k, zm_tk, zm_Rt, zm_is, List.getElem?_cons_zero, List.getElem?_cons_succ, List.set_cons_zero, List.set_cons_succ, List.length_cons, List.length_nil, List.map_cons, List.map_nil, List.sum_cons, List.sum_nil, List.nil_append, List.cons_append, Option.toList, Value.category, reduceIte, Nat.reduceAdd, Nat.reduceLeDiff, Nat.reduceLT, Nat.reduceEqDiff, Nat.reduceMul, and_true, true_and, and_self, Nat.zero_add, Nat.add_zero, Nat.le_refl, true_or, or_true, not_true_eq_false, not_false_eq_true, zm_ft_int, zm_ft_long, zm_ft_ref, zm_ft_null, zm_ft_b0, zm_ft_b1, i_2, i_3, i_4, i_10, io_16, io_64, io_33, io_2, cF_ev, cF_bm, va_rf, cH_0, cH_1, cH_2, cH_3, cH_4, cH_5, uT4, uT5, uT6, uT7, uB1, uB2, uB3, uG, uV, mH_0, mH_1, mH_2, mH_3, mH_4, mH_5, mH_6, mH_7, mH_8, mH_9, mH_10, mH_11, mH_12, mH_13, mH_14, mH_15, mH_16, mH_17, mH_18, mH_19, mH_20, mH_21, vI0, vI1, vI2, vI3, vI5, vI17, vI18, vI19, vA4, vA6, vA7, vA8, vA9, vA10, vA11, vA12, vA13, vA14, vA15, vA16, vA20, vA21, vA22, vA23, vA24, vA25, vA26, vA27, vD]
          exact ⟨fun z => absurd z m4, fun _ => trivial⟩
  refine bkX4_meter_0 X [some (.ref q), some (.int u), some (.int d), some (.int g)] [] _ ?_
  simp only [zi_push, zi_ldi, zi_ldl, zi_lda, zi_sti, zi_stl, zi_sta, zi_inc, zi_b, zi_d, zi_u, zi_bl, zi_dl, zi_ul, zi_lcmp, zi_i2l, zi_l2i, zi_if, zi_ic, zi_nul, zi_dup, zi_pop, zi_dup_x1, zi_dup2, zi_gf, zi_pf, zi_ia, zi_is, zi_la, zi_lst, zi_aa, zi_as, zi_len, zi_new, zi_na, zi_mx, zi_mn, zi_sw, zi_swx, zi_cv, zi_cs, zi_ci, zi_obj, zi_iret, zi_lret, zi_zret, zi_aret, zi_vret, zm_s1, zm_s2, zm_k, zm_tk, zm_Rt, zm_is, List.getElem?_cons_zero, List.getElem?_cons_succ, List.set_cons_zero, List.set_cons_succ, List.length_cons, List.length_nil, List.map_cons, List.map_nil, List.sum_cons, List.sum_nil, List.nil_append, List.cons_append, Option.toList, Value.category, reduceIte, Nat.reduceAdd, Nat.reduceLeDiff, Nat.reduceLT, Nat.reduceEqDiff, Nat.reduceMul, and_true, true_and, and_self, Nat.zero_add, Nat.add_zero, Nat.le_refl, true_or, or_true, not_true_eq_false, not_false_eq_true, zm_ft_int, zm_ft_long, zm_ft_ref, zm_ft_null, zm_ft_b0, zm_ft_b1, i_2, i_3, i_4, i_10, io_16, io_64, io_33, io_2, cF_ev, cF_bm, va_rf, cH_0, cH_1, cH_2, cH_3, cH_4, cH_5, uT4, uT5, uT6, uT7, uB1, uB2, uB3, uG, uV, mH_0, mH_1, mH_2, mH_3, mH_4, mH_5, mH_6, mH_7, mH_8, mH_9, mH_10, mH_11, mH_12, mH_13, mH_14, mH_15, mH_16, mH_17, mH_18, mH_19, mH_20, mH_21, vI0, vI1, vI2, vI3, vI5, vI17, vI18, vI19, vA4, vA6, vA7, vA8, vA9, vA10, vA11, vA12, vA13, vA14, vA15, vA16, vA20, vA21, vA22, vA23, vA24, vA25, vA26, vA27, vD]
  refine zm_call.of (ctR_in32 u (a := 1) (b := 16) (by decide) (by decide)) (Nat.le_refl _) (Nat.le_refl _) ?_
  simp only [zi_push, zi_ldi, zi_ldl, zi_lda, zi_sti, zi_stl, zi_sta, zi_inc, zi_b, zi_d, zi_u, zi_bl, zi_dl, zi_ul, zi_lcmp, zi_i2l, zi_l2i, zi_if, zi_ic, zi_nul, zi_dup, zi_pop, zi_dup_x1, zi_dup2, zi_gf, zi_pf, zi_ia, zi_is, zi_la, zi_lst, zi_aa, zi_as, zi_len, zi_new, zi_na, zi_mx, zi_mn, zi_sw, zi_swx, zi_cv, zi_cs, zi_ci, zi_obj, zi_iret, zi_lret, zi_zret, zi_aret, zi_vret, zm_s1, zm_s2, zm_k, zm_tk, zm_Rt, zm_is, List.getElem?_cons_zero, List.getElem?_cons_succ, List.set_cons_zero, List.set_cons_succ, List.length_cons, List.length_nil, List.map_cons, List.map_nil, List.sum_cons, List.sum_nil, List.nil_append, List.cons_append, Option.toList, Value.category, reduceIte, Nat.reduceAdd, Nat.reduceLeDiff, Nat.reduceLT, Nat.reduceEqDiff, Nat.reduceMul, and_true, true_and, and_self, Nat.zero_add, Nat.add_zero, Nat.le_refl, true_or, or_true, not_true_eq_false, not_false_eq_true, zm_ft_int, zm_ft_long, zm_ft_ref, zm_ft_null, zm_ft_b0, zm_ft_b1, i_2, i_3, i_4, i_10, io_16, io_64, io_33, io_2, cF_ev, cF_bm, va_rf, cH_0, cH_1, cH_2, cH_3, cH_4, cH_5, uT4, uT5, uT6, uT7, uB1, uB2, uB3, uG, uV, mH_0, mH_1, mH_2, mH_3, mH_4, mH_5, mH_6, mH_7, mH_8, mH_9, mH_10, mH_11, mH_12, mH_13, mH_14, mH_15, mH_16, mH_17, mH_18, mH_19, mH_20, mH_21, vI0, vI1, vI2, vI3, vI5, vI17, vI18, vI19, vA4, vA6, vA7, vA8, vA9, vA10, vA11, vA12, vA13, vA14, vA15, vA16, vA20, vA21, vA22, vA23, vA24, vA25, vA26, vA27, vD]
  refine ⟨fun hu => ?_, fun hu => ⟨fun a => k43 hu (unit_d.mp (Or.inl a)), fun a => ⟨fun b => k43 hu (unit_d.mp (Or.inr (Or.inl b))), fun b => ⟨fun c => k43 hu (unit_d.mp (Or.inr (Or.inr (Or.inl c)))), fun c => ⟨fun e => k43 hu (unit_d.mp (Or.inr (Or.inr (Or.inr e)))), fun e => ?_⟩⟩⟩⟩⟩
  · obtain ⟨rfl, rfl⟩ := h1 (by
      by_cases z : b_mt u d g = 0
      · exact z
      · exact absurd hu (mt_1 z).1)
    exact ⟨rfl, rfl⟩
  · obtain ⟨rfl, rfl⟩ := h1 (by
      by_cases z : b_mt u d g = 0
      · exact z
      · rcases unit_d.mpr (mt_1 z).2.1 with y | y | y | y
        · exact absurd y a
        · exact absurd y b
        · exact absurd y c
        · exact absurd y e)
    exact ⟨rfl, rfl⟩
theorem j_meter (h : RR C M ec bc gc) (u d g : Int32) : jI w o q mX3_meter mX4_meter [.int u, .int d, .int g] C M := by
  have hec : ec ≤ 64 := h.1.2.2.2.2.2.1.1
  have hm5 : mI M 5 = nI ec := h.1.2.2.2.2.2.1.2.1
  by_cases hm : b_mt u d g = 0
  · exact ⟨-1003, C, tI M 0 0, ec, bc, gc, fun f n => ctS_meter1 u d g hm, fun f n => ctR_meter (-1003) _ hm5 hec (fun _ => ⟨rfl, rfl⟩) (fun z => absurd hm z) (fun z => absurd hm z), RR_th h 0⟩
  · by_cases hz : ec = 0
    · subst hz
      have h4 : cT C 4 ≤ 0 := by rw [h.1.2.1]; decide
      obtain ⟨m1, m2, m3⟩ := mt_1 hm
      obtain ⟨U', hU', rfl⟩ := inR_nI (m := 16) (inR_w (c_in_inR (a := 1) (b := 16) (by decide) (by decide) (by decide) (by decide) m1) (by omega) (by omega))
      have hU1 : 1 ≤ U' := by
        have := (c_in_ne m1).1
        rcases Nat.eq_zero_or_pos U' with z | z
        · rw [z] at this
          exact absurd (by decide) this
        · exact z
      obtain ⟨d', hd', rfl⟩ := unit_is m2
      obtain ⟨u1, u2, u3, u4, u5⟩ := unit_nI hd'
      rcases m3 with rfl | ⟨m3, m4⟩
      · have hb := bP_us hU1 hU' (bP_base (B := cB C) (G := cG C) (P := pU U' d') (U := U') hd')
        obtain ⟨n1, n2⟩ := b_many_le (d := d') hU'
        refine ⟨nI (b_many U' d'), _, _, 0, 0, b_many U' d', fun f n => ?_, fun f n => ctR_meter (ec := 0) _ _ hm5 hec (fun z => absurd z hm) (fun _ z => absurd z (by omega)) (fun _ _ => ⟨_, ctR_measureU hU1 hU' hd', (ms_keep _ _ _ _ _).2.2.2.1.symm, rfl⟩), meter_rel h hb n1 n2 hU1 hU' u3 u4 (pU_P hU1)⟩
        have ct := ctS_meter3 (w := w) (f := f) (o := o) (n := n) (C := C) hU1 hU' u5 hm h4
        rw [hb.1] at ct
        exact ct
      · have a : ¬ g < 0 := by
          rw [Int32.le_iff_toInt_le] at m3
          rw [Int32.lt_iff_toInt_lt]
          omega
        obtain ⟨D, hD, rfl⟩ := nI_of a
        unfold b_dgI at m4
        rw [if_neg m3, nI_clamp hD] at m4
        have hD0 : 0 < D := by
          rcases Nat.eq_zero_or_pos D with z | z
          · rw [z] at m3
            exact absurd (by decide) m3
          · exact z
        obtain ⟨k, k9, k1, k2⟩ := dig_ex 10 D hD0 (by omega)
        obtain ⟨s1, s2⟩ := dg_sum k 10 D (nI U') k2 k1 (by omega) m4
        have hsle := pT_le D (k + 1) (k + 1)
        have hUs : U' = pT D (k + 1) (k + 1) := by
          rw [nI_eq (by omega) (by omega)] at s1
          exact s1
        have hb := bP_td (D := D) (g := k + 1) (by omega) k (b_base (cB C) (nI U') (nI d'), cG C) 0 (by omega) (bP_base (U := U') hd')
        refine ⟨nI (k + 1), _, _, 0, 0, k + 1, fun f n => ?_, fun f n => ctR_meter (ec := 0) _ _ hm5 hec (fun z => absurd z hm) (fun _ z => absurd z (by omega)) (fun _ _ => ⟨_, ctR_measureT hU1 hU' hd' hD k1 k2 (by omega) m4, (ms_keep _ _ _ _ _).2.2.2.1.symm, rfl⟩), meter_rel h hb (by omega) (by omega) hU1 hU' u3 u4 (by rw [hUs]; exact pT_P s2)⟩
        have ct := ctS_meter4 (w := w) (f := f) (o := o) (n := n) (C := C) hD k1 k2 (by omega) hm h4
        rw [hb.1] at ct
        exact ct
    · exact ⟨-1004, C, tI M 0 0, ec, bc, gc, fun f n => ctS_meter2 u d g hm (by rw [h.1.2.1]; exact nI_nle (by omega) (by omega)), fun f n => ctR_meter (-1004) _ hm5 hec (fun z => absurd z hm) (fun _ _ => ⟨rfl, rfl⟩) (fun _ z => absurd z hz), RR_th h 0⟩
/-- all as at the beginning -/
def r_begin (M : mS) : mS := r_ms (tI (tI (tI (tA (tA (tI M 5 0) 16 0 0) 16 1 0) 17 0) 18 0) 19 0) (pU 4 4) 4 64 4
theorem ctR_begin : zm_C w mX4_begin [.ref q] (mH f q M, n) none (mH f q (r_begin M), n) := by
  refine zm_C.of (mc := 0) (ms := 0) rfl rfl (by decide) (Nat.le_of_ble_eq_true rfl) ?_
  intro Γ X
  refine bkX4_begin_0 X [some (.ref q)] [] _ ?_
  simp only [zi_push, zi_ldi, zi_ldl, zi_lda, zi_sti, zi_stl, zi_sta, zi_inc, zi_b, zi_d, zi_u, zi_bl, zi_dl, zi_ul, zi_lcmp, zi_i2l, zi_l2i, zi_if, zi_ic, zi_nul, zi_dup, zi_pop, zi_dup_x1, zi_dup2, zi_gf, zi_pf, zi_ia, zi_is, zi_la, zi_lst, zi_aa, zi_as, zi_len, zi_new, zi_na, zi_mx, zi_mn, zi_sw, zi_swx, zi_cv, zi_cs, zi_ci, zi_obj, zi_iret, zi_lret, zi_zret, zi_aret, zi_vret, zm_s1, zm_s2, zm_k, zm_tk, zm_Rt, zm_is, List.getElem?_cons_zero, List.getElem?_cons_succ, List.set_cons_zero, List.set_cons_succ, List.length_cons, List.length_nil, List.map_cons, List.map_nil, List.sum_cons, List.sum_nil, List.nil_append, List.cons_append, Option.toList, Value.category, reduceIte, Nat.reduceAdd, Nat.reduceLeDiff, Nat.reduceLT, Nat.reduceEqDiff, Nat.reduceMul, and_true, true_and, and_self, Nat.zero_add, Nat.add_zero, Nat.le_refl, true_or, or_true, not_true_eq_false, not_false_eq_true, zm_ft_int, zm_ft_long, zm_ft_ref, zm_ft_null, zm_ft_b0, zm_ft_b1, i_2, i_3, i_4, i_10, io_16, io_64, io_33, io_2, cF_ev, cF_bm, va_rf, cH_0, cH_1, cH_2, cH_3, cH_4, cH_5, uT4, uT5, uT6, uT7, uB1, uB2, uB3, uG, uV, mH_0, mH_1, mH_2, mH_3, mH_4, mH_5, mH_6, mH_7, mH_8, mH_9, mH_10, mH_11, mH_12, mH_13, mH_14, mH_15, mH_16, mH_17, mH_18, mH_19, mH_20, mH_21, vI0, vI1, vI2, vI3, vI5, vI17, vI18, vI19, vA4, vA6, vA7, vA8, vA9, vA10, vA11, vA12, vA13, vA14, vA15, vA16, vA20, vA21, vA22, vA23, vA24, vA25, vA26, vA27, vD, vp0_2, vp1_2, cl_1, sb_cl0]
  refine zm_call.of (ctR_measureU (U := 4) (d := 4) (by decide) (by decide) (Or.inr (Or.inl rfl))) (Nat.le_refl _) (Nat.le_refl _) ?_
  simp only [zi_push, zi_ldi, zi_ldl, zi_lda, zi_sti, zi_stl, zi_sta, zi_inc, zi_b, zi_d, zi_u, zi_bl, zi_dl, zi_ul, zi_lcmp, zi_i2l, zi_l2i, zi_if, zi_ic, zi_nul, zi_dup, zi_pop, zi_dup_x1, zi_dup2, zi_gf, zi_pf, zi_ia, zi_is, zi_la, zi_lst, zi_aa, zi_as, zi_len, zi_new, zi_na, zi_mx, zi_mn, zi_sw, zi_swx, zi_cv, zi_cs, zi_ci, zi_obj, zi_iret, zi_lret, zi_zret, zi_aret, zi_vret, zm_s1, zm_s2, zm_k, zm_tk, zm_Rt, zm_is, List.getElem?_cons_zero, List.getElem?_cons_succ, List.set_cons_zero, List.set_cons_succ, List.length_cons, List.length_nil, List.map_cons, List.map_nil, List.sum_cons, List.sum_nil, List.nil_append, List.cons_append, Option.toList, Value.category, reduceIte, Nat.reduceAdd, Nat.reduceLeDiff, Nat.reduceLT, Nat.reduceEqDiff, Nat.reduceMul, and_true, true_and, and_self, Nat.zero_add, Nat.add_zero, Nat.le_refl, true_or, or_true, not_true_eq_false, not_false_eq_true, zm_ft_int, zm_ft_long, zm_ft_ref, zm_ft_null, zm_ft_b0, zm_ft_b1, i_2, i_3, i_4, i_10, io_16, io_64, io_33, io_2, cF_ev, cF_bm, va_rf, cH_0, cH_1, cH_2, cH_3, cH_4, cH_5, uT4, uT5, uT6, uT7, uB1, uB2, uB3, uG, uV, mH_0, mH_1, mH_2, mH_3, mH_4, mH_5, mH_6, mH_7, mH_8, mH_9, mH_10, mH_11, mH_12, mH_13, mH_14, mH_15, mH_16, mH_17, mH_18, mH_19, mH_20, mH_21, vI0, vI1, vI2, vI3, vI5, vI17, vI18, vI19, vA4, vA6, vA7, vA8, vA9, vA10, vA11, vA12, vA13, vA14, vA15, vA16, vA20, vA21, vA22, vA23, vA24, vA25, vA26, vA27, vD]
  rfl
theorem begin_rel {C' : cS} (hr : cRows C') (B G : Nat → Int32) (hB : cB C' = (b_us 4 4 (b_base B 4 4, G)).1) (hG : cG C' = (b_us 4 4 (b_base B 4 4, G)).2) (h4 : cT C' 4 = 0) (h5 : cT C' 5 = 0) (h6 : cT C' 6 = 0) (h7 : cT C' 7 = 0) (hv0 : cV C' 0 = 0) (hv1 : cV C' 1 = 0) (M : mS) : RR C' (r_begin M) 0 0 4 := by
  obtain ⟨k1, k2, k3, k4, k5⟩ := ms_keep (tI (tI (tI (tA (tA (tI M 5 0) 16 0 0) 16 1 0) 17 0) 18 0) 19 0) (pU 4 4) 4 64 4
  have hb : bP (b_us 4 4 (b_base B 4 4, G)) (pU 4 4) 64 (nI (4 * 64)) 4 := bP_us (by decide) (by decide) (bP_base (B := B) (G := G) (P := pU 4 4) (U := 4) (d := 4) (Or.inr (Or.inl rfl)))
  have eI : ∀ y, y ≠ 1 → y ≠ 2 → y ≠ 3 → mI (r_begin M) y = mI (tI (tI (tI (tA (tA (tI M 5 0) 16 0 0) 16 1 0) 17 0) 18 0) 19 0) y := k2
  have z0 : inR (0 : Int32) 0 0 := ⟨0, by omega, by omega, rfl⟩
  refine empty_rel hr h4 h5 ?_ ?_ (gR_of hb hB hG k4 k3 k5 (by decide) (by decide) (by decide) (by decide) (by decide) (by decide) (pU_P (U := 4) (d := 4) (by decide))) ⟨?_, ?_, ?_, Or.inl h7, ?_⟩ (by rw [hv0]; exact z0) (by rw [hv1]; exact z0)
  · rw [eI 18 (by decide) (by decide) (by decide), mI_tI, upd_ne _ _ (by decide), mI_tI, upd_at]
  · rw [eI 5 (by decide) (by decide) (by decide), mI_tI, upd_ne _ _ (by decide), mI_tI, upd_ne _ _ (by decide), mI_tI, upd_ne _ _ (by decide), mI_tA, mI_tA, mI_tI, upd_at]
  · unfold r_begin
    rw [k1 16 (by decide), hv0, mA_tI, mA_tI, mA_tI, tA_at, upd_ne _ _ (by decide), tA_at, upd_at]
  · unfold r_begin
    rw [k1 16 (by decide), hv1, mA_tI, mA_tI, mA_tI, tA_at, upd_at]
  · rw [eI 17 (by decide) (by decide) (by decide), mI_tI, upd_ne _ _ (by decide), mI_tI, upd_ne _ _ (by decide), mI_tI, upd_at, h7]
  · rw [eI 19 (by decide) (by decide) (by decide), mI_tI, upd_at, h6]
theorem j_clear (h : RR C M ec bc gc) : jI w o q mX3_clear mX4_clear [] C M := by
  refine ⟨cT C 4, c_clear C, r_begin (tI M 0 0), 0, 0, 4, fun f n => ctS_clear, fun f n => ?_, begin_rel (C' := c_clear C) (cRows_of rfl rfl h.1.1) (cB C) (cG C) rfl rfl rfl rfl rfl rfl rfl rfl _⟩
  have h5 : mI (tI M 0 0) 5 = cT C 4 := by rw [h.1.2.1]; exact h.1.2.2.2.2.2.1.2.1
  refine zm_C.of (mc := 0) (ms := 0) rfl rfl (by decide) (Nat.le_of_ble_eq_true rfl) ?_
  intro Γ X
  refine bkX4_clear_0 X [some (.ref q), none] [] _ ?_
  simp only [zi_push, zi_ldi, zi_ldl, zi_lda, zi_sti, zi_stl, zi_sta, zi_inc, zi_b, zi_d, zi_u, zi_bl, zi_dl, zi_ul, zi_lcmp, zi_i2l, zi_l2i, zi_if, zi_ic, zi_nul, zi_dup, zi_pop, zi_dup_x1, zi_dup2, zi_gf, zi_pf, zi_ia, zi_is, zi_la, zi_lst, zi_aa, zi_as, zi_len, zi_new, zi_na, zi_mx, zi_mn, zi_sw, zi_swx, zi_cv, zi_cs, zi_ci, zi_obj, zi_iret, zi_lret, zi_zret, zi_aret, zi_vret, zm_s1, zm_s2, zm_k, zm_tk, zm_Rt, zm_is, List.getElem?_cons_zero, List.getElem?_cons_succ, List.set_cons_zero, List.set_cons_succ, List.length_cons, List.length_nil, List.map_cons, List.map_nil, List.sum_cons, List.sum_nil, List.nil_append, List.cons_append, Option.toList, Value.category, reduceIte, Nat.reduceAdd, Nat.reduceLeDiff, Nat.reduceLT, Nat.reduceEqDiff, Nat.reduceMul, and_true, true_and, and_self, Nat.zero_add, Nat.add_zero, Nat.le_refl, true_or, or_true, not_true_eq_false, not_false_eq_true, zm_ft_int, zm_ft_long, zm_ft_ref, zm_ft_null, zm_ft_b0, zm_ft_b1, i_2, i_3, i_4, i_10, io_16, io_64, io_33, io_2, cF_ev, cF_bm, va_rf, cH_0, cH_1, cH_2, cH_3, cH_4, cH_5, uT4, uT5, uT6, uT7, uB1, uB2, uB3, uG, uV, mH_0, mH_1, mH_2, mH_3, mH_4, mH_5, mH_6, mH_7, mH_8, mH_9, mH_10, mH_11, mH_12, mH_13, mH_14, mH_15, mH_16, mH_17, mH_18, mH_19, mH_20, mH_21, vI0, vI1, vI2, vI3, vI5, vI17, vI18, vI19, vA4, vA6, vA7, vA8, vA9, vA10, vA11, vA12, vA13, vA14, vA15, vA16, vA20, vA21, vA22, vA23, vA24, vA25, vA26, vA27, vD, h5]
  refine zm_call.of (ctR_begin) (Nat.le_refl _) (Nat.le_refl _) ?_
  simp only [zi_push, zi_ldi, zi_ldl, zi_lda, zi_sti, zi_stl, zi_sta, zi_inc, zi_b, zi_d, zi_u, zi_bl, zi_dl, zi_ul, zi_lcmp, zi_i2l, zi_l2i, zi_if, zi_ic, zi_nul, zi_dup, zi_pop, zi_dup_x1, zi_dup2, zi_gf, zi_pf, zi_ia, zi_is, zi_la, zi_lst, zi_aa, zi_as, zi_len, zi_new, zi_na, zi_mx, zi_mn, zi_sw, zi_swx, zi_cv, zi_cs, zi_ci, zi_obj, zi_iret, zi_lret, zi_zret, zi_aret, zi_vret, zm_s1, zm_s2, zm_k, zm_tk, zm_Rt, zm_is, List.getElem?_cons_zero, List.getElem?_cons_succ, List.set_cons_zero, List.set_cons_succ, List.length_cons, List.length_nil, List.map_cons, List.map_nil, List.sum_cons, List.sum_nil, List.nil_append, List.cons_append, Option.toList, Value.category, reduceIte, Nat.reduceAdd, Nat.reduceLeDiff, Nat.reduceLT, Nat.reduceEqDiff, Nat.reduceMul, and_true, true_and, and_self, Nat.zero_add, Nat.add_zero, Nat.le_refl, true_or, or_true, not_true_eq_false, not_false_eq_true, zm_ft_int, zm_ft_long, zm_ft_ref, zm_ft_null, zm_ft_b0, zm_ft_b1, i_2, i_3, i_4, i_10, io_16, io_64, io_33, io_2, cF_ev, cF_bm, va_rf, cH_0, cH_1, cH_2, cH_3, cH_4, cH_5, uT4, uT5, uT6, uT7, uB1, uB2, uB3, uG, uV, mH_0, mH_1, mH_2, mH_3, mH_4, mH_5, mH_6, mH_7, mH_8, mH_9, mH_10, mH_11, mH_12, mH_13, mH_14, mH_15, mH_16, mH_17, mH_18, mH_19, mH_20, mH_21, vI0, vI1, vI2, vI3, vI5, vI17, vI18, vI19, vA4, vA6, vA7, vA8, vA9, vA10, vA11, vA12, vA13, vA14, vA15, vA16, vA20, vA21, vA22, vA23, vA24, vA25, vA26, vA27, vD]
end
