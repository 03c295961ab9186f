/-! meter and clear: the groups of a bar -/
/-- the sum of the first digits of D, of g digits -/
def pT (D g : Nat) : Nat → Nat
  | 0 => 0
  | k + 1 => pT D g k + D / 10 ^ (g - 1 - k) % 10
theorem pT_tail (D : Nat) : ∀ (k g : Nat), k ≤ g → pT D (g + 1) k = pT (D / 10) g k
  | 0, _, _ => rfl
  | k + 1, g, h => by
    rw [pT, pT, pT_tail D k g (by omega), Nat.div_div_eq_div_mul, ← Nat.pow_succ', show g + 1 - 1 - k = g - 1 - k + 1 by omega]
theorem pT_le (D g : Nat) : ∀ k, pT D g k ≤ 9 * k
  | 0 => Nat.le_refl _
  | k + 1 => by
    have h1 := pT_le D g k
    have h2 := Nat.mod_lt (D / 10 ^ (g - 1 - k)) (show 10 > 0 by decide)
    rw [pT]
    omega
theorem dg_sum : ∀ (g k D : Nat) (l : Int32), D < 10 ^ (g + 1) → 10 ^ g ≤ D → g < k → (¬ b_dg (k + 1) D l = 0) → l = nI (pT D (g + 1) (g + 1)) ∧ ∀ i, i < g + 1 → ¬ D / 10 ^ i % 10 = 0
  | 0, k, D, l, h1, h2, h3, hb => by
    have hD : ¬ D = 0 := by omega
    have hD10 : D % 10 = D := by omega
    obtain ⟨k', rfl⟩ : ∃ k', k = k' + 1 := ⟨k - 1, by omega⟩
    rw [b_dg, if_neg hD, if_neg (by omega), b_dg, if_pos (by omega), hD10] at hb
    have hl : l - nI D = 0 := by
      by_cases z : l - nI D = 0
      · exact z
      · rw [zb, if_neg z] at hb
        exact absurd rfl hb
    refine ⟨?_, fun i hi => ?_⟩
    · rw [← Int32.sub_add_cancel l (nI D), hl]
      show 0 + nI D = nI (0 + D / 10 ^ 0 % 10)
      rw [← nI_0, nI_add, Nat.pow_zero, Nat.div_one, hD10]
    · have : i = 0 := by omega
      subst this
      rw [Nat.pow_zero, Nat.div_one]
      omega
  | g + 1, k, D, l, h1, h2, h3, hb => by
    have hp : 0 < 10 ^ g := Nat.pow_pos (by decide)
    rw [Nat.pow_succ] at h1 h2
    have hD : ¬ D = 0 := by omega
    obtain ⟨k', rfl⟩ : ∃ k', k = k' + 1 := ⟨k - 1, by omega⟩
    rw [b_dg, if_neg hD] at hb
    by_cases h0 : D % 10 = 0
    · rw [if_pos h0] at hb
      exact absurd rfl hb
    · rw [if_neg h0] at hb
      obtain ⟨a1, a2⟩ := dg_sum g k' (D / 10) _ (by omega) (by omega) (by omega) hb
      refine ⟨?_, fun i hi => ?_⟩
      · rw [← Int32.sub_add_cancel l (nI (D % 10)), a1, nI_add, ← pT_tail D (g + 1) (g + 1) (Nat.le_refl _)]
        conv => rhs; rw [pT]
        rw [show g + 1 + 1 - 1 - (g + 1) = 0 by omega, Nat.pow_zero, Nat.div_one]
      · cases i with
        | zero =>
          rw [Nat.pow_zero, Nat.div_one]
          exact h0
        | succ i =>
          have := a2 i (by omega)
          rw [Nat.div_div_eq_div_mul, ← Nat.pow_succ'] at this
          exact this
theorem dig_ex : ∀ (n D : Nat), 0 < D → D < 10 ^ n → ∃ g, g < n ∧ 10 ^ g ≤ D ∧ D < 10 ^ (g + 1)
  | 0, D, h1, h2 => by
    rw [Nat.pow_zero] at h2
    omega
  | n + 1, D, h1, h2 => by
    rcases Nat.lt_or_ge D (10 ^ n) with h | h
    · obtain ⟨g, g1, g2⟩ := dig_ex n D h1 h
      exact ⟨g, by omega, g2⟩
    · exact ⟨n, by omega, h, h2⟩
/-- the class's groups -/
def bP (BG : (Nat → Int32) × (Nat → Int32)) (P : Nat → Nat) (u : Nat) (x : Int32) (c : Nat) : Prop := BG.1 1 = nI c ∧ BG.1 2 = x ∧ BG.1 3 = nI u ∧ ∀ k, k < c → BG.2 k = nI (P (k + 1) * u)
theorem bP_add {BG : (Nat → Int32) × (Nat → Int32)} {P : Nat → Nat} {u : Nat} {x : Int32} {c s : Nat} (h : bP BG P u x c) (hc : c < 16) (h0 : P 0 = 0) (hs : P (c + 1) = P c + s) : bP (b_add BG (nI s)) P u x (c + 1) := by
  obtain ⟨B, G⟩ := BG
  obtain ⟨a1, a2, a3, a4⟩ := h
  dsimp only at a1 a2 a3 a4
  obtain ⟨d1, d2, d3⟩ := b_add_c (G := G) a1 hc (nI s)
  refine ⟨d1, by rw [d2]; exact a2, by rw [d3]; exact a3, fun k hk => ?_⟩
  have h16 : ¬ (16 : Int32) ≤ B 1 := by
    rw [a1]
    exact nI_ge (a := c) (b := 16) hc (by decide)
  have e1 : (if B 1 ≤ 0 then (0 : Int32) else G (B 1 - 1).toNatClampNeg) = nI (P c * u) := by
    by_cases z : c = 0
    · subst z
      rw [if_pos (by rw [a1]; decide), h0, Nat.zero_mul]
      rfl
    · rw [if_neg (by rw [a1]; exact nI_nle (by omega) (by omega)), a1, nI_m1 (by omega), nI_clamp (by omega), a4 (c - 1) (by omega), show c - 1 + 1 = c by omega]
  unfold b_add
  dsimp only
  rw [if_neg h16]
  dsimp only
  rw [e1, a1, nI_clamp (show c < 2 ^ 31 by omega), a3]
  by_cases e : k = c
  · subst e
    rw [upd_at, hs, pk_mul, nI_add, Nat.add_mul]
  · rw [upd_ne _ _ e]
    exact a4 k (by omega)
theorem bP_it {P : Nat → Nat} {u : Nat} {x : Int32} {s : Nat} (h0 : P 0 = 0) : ∀ (m : Nat) (BG : (Nat → Int32) × (Nat → Int32)) (c : Nat), c + m ≤ 16 → (∀ k, c ≤ k → k < c + m → P (k + 1) = P k + s) → bP BG P u x c → bP (b_it m (nI s) BG) P u x (c + m)
  | 0, _, _, _, _, h => h
  | m + 1, BG, c, h1, h2, h => by
    have := bP_it h0 m (b_add BG (nI s)) (c + 1) (by omega) (fun k k1 k2 => h2 k (by omega) (by omega)) (bP_add h (by omega) h0 (h2 c (by omega) (by omega)))
    rw [show c + (m + 1) = c + 1 + m by omega]
    exact this
theorem bP_td {D g : Nat} {u : Nat} {x : Int32} (hg : g ≤ 16) : ∀ (k : Nat) (BG : (Nat → Int32) × (Nat → Int32)) (c : Nat), c + (k + 1) = g → bP BG (pT D g) u x c → bP (b_td D k BG) (pT D g) u x g
  | 0, BG, c, h1, h => by
    have := bP_add (s := D % 10) h (by omega) rfl (by rw [pT, show g - 1 - c = 0 by omega, Nat.pow_zero, Nat.div_one])
    rw [show c + 1 = g by omega] at this
    exact this
  | k + 1, BG, c, h1, h => by
    refine bP_td hg k _ (c + 1) (by omega) (bP_add h (by omega) rfl ?_)
    rw [pT, show g - 1 - c = k + 1 by omega]
/-- the usual groups -/
def pU (U d k : Nat) : Nat := if k < b_many U d then b_size U d * k else U
def ofU (U d a : Nat) : Nat := if d < 8 then 1 else if U % 3 = 0 then 3 else if U - a = 3 then 3 else if U - a = 1 then 1 else 2
theorem pU_step {U d k : Nat} (hU : 1 ≤ U) (hk : k < b_many U d) : pU U d k < U ∧ pU U d (k + 1) = pU U d k + ofU U d (pU U d k) := by
  unfold pU ofU
  unfold b_many at hk ⊢
  by_cases h8 : d < 8
  · have hz : b_size U d = 1 := by unfold b_size; rw [if_pos h8]
    rw [hz] at hk ⊢
    rw [if_pos hk, if_pos h8]
    split <;> omega
  · by_cases h3 : U % 3 = 0
    · have hz : b_size U d = 3 := by unfold b_size; rw [if_neg h8, if_pos h3]
      rw [hz] at hk ⊢
      rw [if_pos hk, if_neg h8, if_pos h3]
      split <;> omega
    · have hz : b_size U d = 2 := by unfold b_size; rw [if_neg h8, if_neg h3]
      rw [hz] at hk ⊢
      rw [if_pos hk, if_neg h8, if_neg h3]
      refine ⟨by omega, ?_⟩
      split
      · split
        · omega
        · split <;> omega
      · split
        · omega
        · split <;> omega
theorem pU_end (U d : Nat) : pU U d (b_many U d) = U := by
  unfold pU
  rw [if_neg (by omega)]
theorem pU_0 {U d : Nat} (hU : U ≤ 16) : pU U d 0 = 0 := by
  unfold pU
  rw [if_pos (by have := (b_many_le (d := d) hU).1; omega), Nat.mul_zero]
theorem bP_us {U d u : Nat} {x : Int32} {B G : Nat → Int32} (hU1 : 1 ≤ U) (hU : U ≤ 16) (h : bP (B, G) (pU U d) u x 0) : bP (b_us U d (B, G)) (pU U d) u x (b_many U d) := by
  obtain ⟨m1, m2⟩ := b_many_le (d := d) hU
  have hm := b_many_mul (d := d) hU1
  have h1 := bP_it (s := b_size U d) (pU_0 hU) (b_many U d - 1) (B, G) 0 (by omega) (fun k _ k2 => by
    unfold pU
    rw [if_pos (by omega), if_pos (by omega), Nat.mul_succ]) h
  rw [Nat.zero_add] at h1
  have h2 := bP_add (s := U - b_size U d * (b_many U d - 1)) h1 (by omega) (pU_0 hU) (by
    rw [show b_many U d - 1 + 1 = b_many U d by omega, pU_end]
    unfold pU
    rw [if_pos (by omega)]
    omega)
  rw [show b_many U d - 1 + 1 = b_many U d by omega] at h2
  exact h2
def isD (d : Nat) : Prop := d = 2 ∨ d = 4 ∨ d = 8 ∨ d = 16
theorem unit_nI {d : Nat} (hd : isD d) : b_unit (nI d) = nI (256 / d) ∧ (256 : Int32) / nI d = nI (256 / d) ∧ 16 ≤ 256 / d ∧ 256 / d ≤ 128 ∧ d ≤ 16 := by
  rcases hd with rfl | rfl | rfl | rfl <;> exact ⟨by decide, by decide, by decide, by decide, by decide⟩
theorem bP_base {B G : Nat → Int32} {P : Nat → Nat} {U d : Nat} (hd : isD d) : bP (b_base B (nI U) (nI d), G) P (256 / d) (nI (U * (256 / d))) 0 := by
  refine ⟨?_, ?_, ?_, fun k hk => absurd hk (by omega)⟩
  · show b_base B (nI U) (nI d) 1 = _
    unfold b_base
    rw [upd_at]
    rfl
  · show b_base B (nI U) (nI d) 2 = _
    unfold b_base
    rw [upd_ne _ _ (by decide), upd_at, (unit_nI hd).1, pk_mul]
  · show b_base B (nI U) (nI d) 3 = _
    unfold b_base
    rw [upd_ne _ _ (by decide), upd_ne _ _ (by decide), upd_at, (unit_nI hd).1]
/-- the reference's groups -/
def r_mF (P : Nat → Nat) (u : Nat) (k : Nat) (X : mS) : mS := tI (tA X 4 k (nI (P k * u))) 3 (nI (k + 1))
def r_m0 (M : mS) (U u : Nat) : mS := tI (tI (tI M 1 (nI u)) 2 (nI (U * u))) 3 0
def r_ms (M : mS) (P : Nat → Nat) (U u g : Nat) : mS := itr (r_mF P u) g 0 (r_m0 M U u)
theorem ms_keep (M : mS) (P : Nat → Nat) (U u g : Nat) : (∀ y, y ≠ 4 → mA (r_ms M P U u g) y = mA M y) ∧ (∀ y, y ≠ 1 → y ≠ 2 → y ≠ 3 → mI (r_ms M P U u g) y = mI M y) ∧ mI (r_ms M P U u g) 2 = nI (U * u) ∧ mI (r_ms M P U u g) 3 = nI g ∧ ∀ k, k < g → mA (r_ms M P U u g) 4 k = nI (P k * u) := by
  refine itr_inv (fun i X => (∀ y, y ≠ 4 → mA X y = mA M y) ∧ (∀ y, y ≠ 1 → y ≠ 2 → y ≠ 3 → mI X y = mI M y) ∧ mI X 2 = nI (U * u) ∧ mI X 3 = nI i ∧ ∀ k, k < i → mA X 4 k = nI (P k * u)) (r_mF P u) g (fun i X hi hX => ?_) g 0 (r_m0 M U u) (by omega) ⟨fun y _ => rfl, fun y h1 h2 h3 => ?_, ?_, ?_, fun k hk => absurd hk (by omega)⟩
  · obtain ⟨x1, x2, x3, x4, x5⟩ := hX
    unfold r_mF
    refine ⟨fun y hy => ?_, fun y h1 h2 h3 => ?_, ?_, ?_, fun k hk => ?_⟩
    · rw [mA_tI, tA_ne _ _ _ hy]
      exact x1 y hy
    · rw [mI_tI, upd_ne _ _ h3, mI_tA]
      exact x2 y h1 h2 h3
    · rw [mI_tI, upd_ne _ _ (by decide), mI_tA]
      exact x3
    · rw [mI_tI, upd_at]
    · rw [mA_tI, tA_at]
      by_cases e : k = i
      · rw [e, upd_at]
      · rw [upd_ne _ _ e]
        exact x5 k (by omega)
  · unfold r_m0
    rw [mI_tI, upd_ne _ _ h3, mI_tI, upd_ne _ _ h2, mI_tI, upd_ne _ _ h1]
  · unfold r_m0
    rw [mI_tI, upd_ne _ _ (by decide), mI_tI, upd_at]
  · unfold r_m0
    rw [mI_tI, upd_at]
    rfl
section
variable {w : zW} {f : Nat → Option zO} {o q : Nat} {n : Nat × Nat} {C : cS} {M : mS} {ec bc gc : Nat} {Γ : zC} {Rt : zR}
/-- a group of size s more -/
theorem ms_221 (X : zm_X w Γ mX4_measure n.1 n.2 Rt) {Y : mS} {P : Nat → Nat} {u k s : Nat} {a6 : Int32} {a1 a2 a3 a4 a5 a8 : Option Value} (hk : k < 16) (h1 : mI Y 1 = nI u) (h3 : mI Y 3 = nI k) (K : zm_V w Γ 130 [some (.ref q), a1, a2, a3, a4, a5, some (.int a6), some (.int (nI (P k + s))), a8, some (.int (nI s))] [] (mH f q (r_mF P u k Y), n)) : zm_V w Γ 221 [some (.ref q), a1, a2, a3, a4, a5, some (.int a6), some (.int (nI (P k))), a8, some (.int (nI s))] [] (mH f q Y, n) := by
  have y3 : ∀ (Y : mS) (k' i : Nat) (x' : Int32), mI (tA Y k' i x') 3 = mI Y 3 := fun Y k' i x' => rfl
  refine bkX4_measure_221 X _ _ _ ?_
  simp only [zi_push, zi_ldi, zi_ldl, zi_lda, zi_sti, zi_stl, zi_sta, zi_inc, zi_b, zi_d, zi_u, zi_bl, zi_dl, zi_ul, zi_lcmp, zi_i2l, zi_l2i, zi_if, zi_ic, zi_nul, zi_dup, zi_pop, zi_dup_x1, zi_dup2, zi_gf, zi_pf, zi_ia, zi_is, zi_la, zi_lst, zi_aa, zi_as, zi_len, zi_new, zi_na, zi_mx, zi_mn, zi_sw, zi_swx, zi_cv, zi_cs, zi_ci, zi_obj, zi_iret, zi_lret, zi_zret, zi_aret, zi_vret, zm_s1, zm_s2, zm_k, zm_tk, zm_Rt, zm_is, List.getElem?_cons_zero, List.getElem?_cons_succ, List.set_cons_zero, List.set_cons_succ, List.length_cons, List.length_nil, List.map_cons, List.map_nil, List.sum_cons, List.sum_nil, List.nil_append, List.cons_append, Option.toList, Value.category, reduceIte, Nat.reduceAdd, Nat.reduceLeDiff, Nat.reduceLT, Nat.reduceEqDiff, Nat.reduceMul, and_true, true_and, and_self, Nat.zero_add, Nat.add_zero, Nat.le_refl, true_or, or_true, not_true_eq_false, not_false_eq_true, zm_ft_int, zm_ft_long, zm_ft_ref, zm_ft_null, zm_ft_b0, zm_ft_b1, i_2, i_3, i_4, i_10, io_16, io_64, io_33, io_2, cF_ev, cF_bm, va_rf, cH_0, cH_1, cH_2, cH_3, cH_4, cH_5, uT4, uT5, uT6, uT7, uB1, uB2, uB3, uG, uV, mH_0, mH_1, mH_2, mH_3, mH_4, mH_5, mH_6, mH_7, mH_8, mH_9, mH_10, mH_11, mH_12, mH_13, mH_14, mH_15, mH_16, mH_17, mH_18, mH_19, mH_20, mH_21, vI0, vI1, vI2, vI3, vI5, vI17, vI18, vI19, vA4, vA6, vA7, vA8, vA9, vA10, vA11, vA12, vA13, vA14, vA15, vA16, vA20, vA21, vA22, vA23, vA24, vA25, vA26, vA27, vD, h1, h3, nI_clamp (show k < 2 ^ 31 by omega), pk_mul, nI_add, nI_1, y3]
  exact ⟨vp_in_nI (by omega) (by decide), K⟩
theorem m0_eq (M : mS) (U u : Nat) : tI (tI (tI M 1 (nI u)) 2 (nI U * mI (tI M 1 (nI u)) 1)) 3 0 = r_m0 M U u := by
  rw [mI_tI, upd_at, pk_mul]
  rfl
theorem ctR_measureU {U d : Nat} (hU1 : 1 ≤ U) (hU : U ≤ 16) (hd : isD d) : zm_C w mX4_measure [.ref q, .int (nI U), .int (nI d), .int 0] (mH f q M, n) (some (.int 1)) (mH f q (r_ms M (pU U d) U (256 / d) (b_many U d)), n) := by
  obtain ⟨u1, u2, u3, u4, u5⟩ := unit_nI hd
  have hd0 : ¬ nI d = 0 := by rcases hd with rfl | rfl | rfl | rfl <;> decide
  obtain ⟨m1, m2⟩ := b_many_le (d := d) hU
  have d8 : nI d < 8 ↔ d < 8 := nI_ltI (b := 8) (by omega) (by decide)
  have hr3 : nI U - nI U / 3 * 3 = nI (U % 3) := pk_rem (d := 3) (by omega) (by decide) (by decide)
  have h30 : nI (U % 3) = 0 ↔ U % 3 = 0 := nI_eq0 (by omega)
  refine zm_C.of (mc := 0) (ms := 0) rfl rfl (by decide) (Nat.le_of_ble_eq_true rfl) ?_
  intro Γ X
  have key : ∀ (m k : Nat) (Y : mS) (l9 : Option Value), k + m = b_many U d → mI Y 1 = nI (256 / d) → mI Y 3 = nI k → itr (r_mF (pU U d) (256 / d)) m k Y = r_ms M (pU U d) U (256 / d) (b_many U d) → zm_V w Γ 130 [some (.ref q), some (.int (nI U)), some (.int (nI d)), some (.int 0), some (.int 0), some (.int 0), some (.int 0), some (.int (nI (pU U d k))), some (.int 1), l9] [] (mH f q Y, n) := by
    intro m
    induction m with
    | zero =>
      intro k Y l9 h1 h2 h3 h4
      have hk : k = b_many U d := by omega
      subst hk
      refine bkX4_measure_130 X _ _ _ ?_
      rw [pU_end]
      simp only [zi_push, zi_ldi, zi_ldl, zi_lda, zi_sti, zi_stl, zi_sta, zi_inc, zi_b, zi_d, zi_u, zi_bl, zi_dl, zi_ul, zi_lcmp, zi_i2l, zi_l2i, zi_if, zi_ic, zi_nul, zi_dup, zi_pop, zi_dup_x1, zi_dup2, zi_gf, zi_pf, zi_ia, zi_is, zi_la, zi_lst, zi_aa, zi_as, zi_len, zi_new, zi_na, zi_mx, zi_mn, zi_sw, zi_swx, zi_cv, zi_cs, zi_ci, zi_obj, zi_iret, zi_lret, zi_zret, zi_aret, zi_vret, zm_s1, zm_s2, zm_k, zm_tk, zm_Rt, zm_is, List.getElem?_cons_zero, List.getElem?_cons_succ, List.set_cons_zero, List.set_cons_succ, List.length_cons, List.length_nil, List.map_cons, List.map_nil, List.sum_cons, List.sum_nil, List.nil_append, List.cons_append, Option.toList, Value.category, reduceIte, Nat.reduceAdd, Nat.reduceLeDiff, Nat.reduceLT, Nat.reduceEqDiff, Nat.reduceMul, and_true, true_and, and_self, Nat.zero_add, Nat.add_zero, Nat.le_refl, true_or, or_true, not_true_eq_false, not_false_eq_true, zm_ft_int, zm_ft_long, zm_ft_ref, zm_ft_null, zm_ft_b0, zm_ft_b1, i_2, i_3, i_4, i_10, io_16, io_64, io_33, io_2, cF_ev, cF_bm, va_rf, cH_0, cH_1, cH_2, cH_3, cH_4, cH_5, uT4, uT5, uT6, uT7, uB1, uB2, uB3, uG, uV, mH_0, mH_1, mH_2, mH_3, mH_4, mH_5, mH_6, mH_7, mH_8, mH_9, mH_10, mH_11, mH_12, mH_13, mH_14, mH_15, mH_16, mH_17, mH_18, mH_19, mH_20, mH_21, vI0, vI1, vI2, vI3, vI5, vI17, vI18, vI19, vA4, vA6, vA7, vA8, vA9, vA10, vA11, vA12, vA13, vA14, vA15, vA16, vA20, vA21, vA22, vA23, vA24, vA25, vA26, vA27, vD]
      exact ⟨fun _ => by rw [← h4]; rfl, fun z => absurd (nI_le (Nat.le_refl _) (by omega)) z⟩
    | succ m ih =>
      intro k Y l9 h1 h2 h3 h4
      obtain ⟨p1, p2⟩ := pU_step (d := d) hU1 (show k < b_many U d by omega)
      have hsub : nI U - nI (pU U d k) = nI (U - pU U d k) := pk_sub (by omega)
      have e3 : nI (U - pU U d k) = 3 ↔ U - pU U d k = 3 := nI_eq (b := 3) (by omega) (by decide)
      have e1 : nI (U - pU U d k) = 1 ↔ U - pU U d k = 1 := nI_eq (b := 1) (by omega) (by decide)
      have k221 : ∀ s : Nat, s = ofU U d (pU U d k) → zm_V w Γ 221 [some (.ref q), some (.int (nI U)), some (.int (nI d)), some (.int 0), some (.int 0), some (.int 0), some (.int 0), some (.int (nI (pU U d k))), some (.int 1), some (.int (nI s))] [] (mH f q Y, n) := by
        intro s hs
        refine ms_221 X (by omega) h2 h3 ?_
        rw [hs, ← p2]
        exact ih (k + 1) (r_mF (pU U d) (256 / d) k Y) _ (by omega) h2 (by unfold r_mF; rw [mI_tI, upd_at]) h4
      have k182 : (d < 8 ∨ ¬ U % 3 = 0) → zm_V w Γ 182 [some (.ref q), some (.int (nI U)), some (.int (nI d)), some (.int 0), some (.int 0), some (.int 0), some (.int 0), some (.int (nI (pU U d k))), some (.int 1), l9] [] (mH f q Y, n) := by
        intro hz
        refine bkX4_measure_182 X _ _ _ ?_
        simp only [zi_push, zi_ldi, zi_ldl, zi_lda, zi_sti, zi_stl, zi_sta, zi_inc, zi_b, zi_d, zi_u, zi_bl, zi_dl, zi_ul, zi_lcmp, zi_i2l, zi_l2i, zi_if, zi_ic, zi_nul, zi_dup, zi_pop, zi_dup_x1, zi_dup2, zi_gf, zi_pf, zi_ia, zi_is, zi_la, zi_lst, zi_aa, zi_as, zi_len, zi_new, zi_na, zi_mx, zi_mn, zi_sw, zi_swx, zi_cv, zi_cs, zi_ci, zi_obj, zi_iret, zi_lret, zi_zret, zi_aret, zi_vret, zm_s1, zm_s2, zm_k, zm_tk, zm_Rt, zm_is, List.getElem?_cons_zero, List.getElem?_cons_succ, List.set_cons_zero, List.set_cons_succ, List.length_cons, List.length_nil, List.map_cons, List.map_nil, List.sum_cons, List.sum_nil, List.nil_append, List.cons_append, Option.toList, Value.category, reduceIte, Nat.reduceAdd, Nat.reduceLeDiff, Nat.reduceLT, Nat.reduceEqDiff, Nat.reduceMul, and_true, true_and, and_self, Nat.zero_add, Nat.add_zero, Nat.le_refl, true_or, or_true, not_true_eq_false, not_false_eq_true, zm_ft_int, zm_ft_long, zm_ft_ref, zm_ft_null, zm_ft_b0, zm_ft_b1, i_2, i_3, i_4, i_10, io_16, io_64, io_33, io_2, cF_ev, cF_bm, va_rf, cH_0, cH_1, cH_2, cH_3, cH_4, cH_5, uT4, uT5, uT6, uT7, uB1, uB2, uB3, uG, uV, mH_0, mH_1, mH_2, mH_3, mH_4, mH_5, mH_6, mH_7, mH_8, mH_9, mH_10, mH_11, mH_12, mH_13, mH_14, mH_15, mH_16, mH_17, mH_18, mH_19, mH_20, mH_21, vI0, vI1, vI2, vI3, vI5, vI17, vI18, vI19, vA4, vA6, vA7, vA8, vA9, vA10, vA11, vA12, vA13, vA14, vA15, vA16, vA20, vA21, vA22, vA23, vA24, vA25, vA26, vA27, vD, hsub, e3, e1, d8]
        refine ⟨fun a => k221 1 (by unfold ofU; rw [if_pos a]), fun a => ⟨fun b => ?_, fun b => ⟨fun c => ?_, fun c => ?_⟩⟩⟩
        · refine bkX4_measure_213 X _ _ _ ?_
          simp only [zi_push, zi_ldi, zi_ldl, zi_lda, zi_sti, zi_stl, zi_sta, zi_inc, zi_b, zi_d, zi_u, zi_bl, zi_dl, zi_ul, zi_lcmp, zi_i2l, zi_l2i, zi_if, zi_ic, zi_nul, zi_dup, zi_pop, zi_dup_x1, zi_dup2, zi_gf, zi_pf, zi_ia, zi_is, zi_la, zi_lst, zi_aa, zi_as, zi_len, zi_new, zi_na, zi_mx, zi_mn, zi_sw, zi_swx, zi_cv, zi_cs, zi_ci, zi_obj, zi_iret, zi_lret, zi_zret, zi_aret, zi_vret, zm_s1, zm_s2, zm_k, zm_tk, zm_Rt, zm_is, List.getElem?_cons_zero, List.getElem?_cons_succ, List.set_cons_zero, List.set_cons_succ, List.length_cons, List.length_nil, List.map_cons, List.map_nil, List.sum_cons, List.sum_nil, List.nil_append, List.cons_append, Option.toList, Value.category, reduceIte, Nat.reduceAdd, Nat.reduceLeDiff, Nat.reduceLT, Nat.reduceEqDiff, Nat.reduceMul, and_true, true_and, and_self, Nat.zero_add, Nat.add_zero, Nat.le_refl, true_or, or_true, not_true_eq_false, not_false_eq_true, zm_ft_int, zm_ft_long, zm_ft_ref, zm_ft_null, zm_ft_b0, zm_ft_b1, i_2, i_3, i_4, i_10, io_16, io_64, io_33, io_2, cF_ev, cF_bm, va_rf, cH_0, cH_1, cH_2, cH_3, cH_4, cH_5, uT4, uT5, uT6, uT7, uB1, uB2, uB3, uG, uV, mH_0, mH_1, mH_2, mH_3, mH_4, mH_5, mH_6, mH_7, mH_8, mH_9, mH_10, mH_11, mH_12, mH_13, mH_14, mH_15, mH_16, mH_17, mH_18, mH_19, mH_20, mH_21, vI0, vI1, vI2, vI3, vI5, vI17, vI18, vI19, vA4, vA6, vA7, vA8, vA9, vA10, vA11, vA12, vA13, vA14, vA15, vA16, vA20, vA21, vA22, vA23, vA24, vA25, vA26, vA27, vD]
          exact k221 3 (by unfold ofU; rw [if_neg a, if_neg (by rcases hz with z | z; exact absurd z a; exact z), if_pos b])
        · refine bkX4_measure_213 X _ _ _ ?_
          simp only [zi_push, zi_ldi, zi_ldl, zi_lda, zi_sti, zi_stl, zi_sta, zi_inc, zi_b, zi_d, zi_u, zi_bl, zi_dl, zi_ul, zi_lcmp, zi_i2l, zi_l2i, zi_if, zi_ic, zi_nul, zi_dup, zi_pop, zi_dup_x1, zi_dup2, zi_gf, zi_pf, zi_ia, zi_is, zi_la, zi_lst, zi_aa, zi_as, zi_len, zi_new, zi_na, zi_mx, zi_mn, zi_sw, zi_swx, zi_cv, zi_cs, zi_ci, zi_obj, zi_iret, zi_lret, zi_zret, zi_aret, zi_vret, zm_s1, zm_s2, zm_k, zm_tk, zm_Rt, zm_is, List.getElem?_cons_zero, List.getElem?_cons_succ, List.set_cons_zero, List.set_cons_succ, List.length_cons, List.length_nil, List.map_cons, List.map_nil, List.sum_cons, List.sum_nil, List.nil_append, List.cons_append, Option.toList, Value.category, reduceIte, Nat.reduceAdd, Nat.reduceLeDiff, Nat.reduceLT, Nat.reduceEqDiff, Nat.reduceMul, and_true, true_and, and_self, Nat.zero_add, Nat.add_zero, Nat.le_refl, true_or, or_true, not_true_eq_false, not_false_eq_true, zm_ft_int, zm_ft_long, zm_ft_ref, zm_ft_null, zm_ft_b0, zm_ft_b1, i_2, i_3, i_4, i_10, io_16, io_64, io_33, io_2, cF_ev, cF_bm, va_rf, cH_0, cH_1, cH_2, cH_3, cH_4, cH_5, uT4, uT5, uT6, uT7, uB1, uB2, uB3, uG, uV, mH_0, mH_1, mH_2, mH_3, mH_4, mH_5, mH_6, mH_7, mH_8, mH_9, mH_10, mH_11, mH_12, mH_13, mH_14, mH_15, mH_16, mH_17, mH_18, mH_19, mH_20, mH_21, vI0, vI1, vI2, vI3, vI5, vI17, vI18, vI19, vA4, vA6, vA7, vA8, vA9, vA10, vA11, vA12, vA13, vA14, vA15, vA16, vA20, vA21, vA22, vA23, vA24, vA25, vA26, vA27, vD]
          exact k221 1 (by unfold ofU; rw [if_neg a, if_neg (by rcases hz with z | z; exact absurd z a; exact z), if_neg b, if_pos c])
        · refine bkX4_measure_213 X _ _ _ ?_
          simp only [zi_push, zi_ldi, zi_ldl, zi_lda, zi_sti, zi_stl, zi_sta, zi_inc, zi_b, zi_d, zi_u, zi_bl, zi_dl, zi_ul, zi_lcmp, zi_i2l, zi_l2i, zi_if, zi_ic, zi_nul, zi_dup, zi_pop, zi_dup_x1, zi_dup2, zi_gf, zi_pf, zi_ia, zi_is, zi_la, zi_lst, zi_aa, zi_as, zi_len, zi_new, zi_na, zi_mx, zi_mn, zi_sw, zi_swx, zi_cv, zi_cs, zi_ci, zi_obj, zi_iret, zi_lret, zi_zret, zi_aret, zi_vret, zm_s1, zm_s2, zm_k, zm_tk, zm_Rt, zm_is, List.getElem?_cons_zero, List.getElem?_cons_succ, List.set_cons_zero, List.set_cons_succ, List.length_cons, List.length_nil, List.map_cons, List.map_nil, List.sum_cons, List.sum_nil, List.nil_append, List.cons_append, Option.toList, Value.category, reduceIte, Nat.reduceAdd, Nat.reduceLeDiff, Nat.reduceLT, Nat.reduceEqDiff, Nat.reduceMul, and_true, true_and, and_self, Nat.zero_add, Nat.add_zero, Nat.le_refl, true_or, or_true, not_true_eq_false, not_false_eq_true, zm_ft_int, zm_ft_long, zm_ft_ref, zm_ft_null, zm_ft_b0, zm_ft_b1, i_2, i_3, i_4, i_10, io_16, io_64, io_33, io_2, cF_ev, cF_bm, va_rf, cH_0, cH_1, cH_2, cH_3, cH_4, cH_5, uT4, uT5, uT6, uT7, uB1, uB2, uB3, uG, uV, mH_0, mH_1, mH_2, mH_3, mH_4, mH_5, mH_6, mH_7, mH_8, mH_9, mH_10, mH_11, mH_12, mH_13, mH_14, mH_15, mH_16, mH_17, mH_18, mH_19, mH_20, mH_21, vI0, vI1, vI2, vI3, vI5, vI17, vI18, vI19, vA4, vA6, vA7, vA8, vA9, vA10, vA11, vA12, vA13, vA14, vA15, vA16, vA20, vA21, vA22, vA23, vA24, vA25, vA26, vA27, vD]
          exact k221 2 (by unfold ofU; rw [if_neg a, if_neg (by rcases hz with z | z; exact absurd z a; exact z), if_neg b, if_neg c])
      refine bkX4_measure_130 X _ _ _ ?_
      simp only [zi_push, zi_ldi, zi_ldl, zi_lda, zi_sti, zi_stl, zi_sta, zi_inc, zi_b, zi_d, zi_u, zi_bl, zi_dl, zi_ul, zi_lcmp, zi_i2l, zi_l2i, zi_if, zi_ic, zi_nul, zi_dup, zi_pop, zi_dup_x1, zi_dup2, zi_gf, zi_pf, zi_ia, zi_is, zi_la, zi_lst, zi_aa, zi_as, zi_len, zi_new, zi_na, zi_mx, zi_mn, zi_sw, zi_swx, zi_cv, zi_cs, zi_ci, zi_obj, zi_iret, zi_lret, zi_zret, zi_aret, zi_vret, zm_s1, zm_s2, zm_k, zm_tk, zm_Rt, zm_is, List.getElem?_cons_zero, List.getElem?_cons_succ, List.set_cons_zero, List.set_cons_succ, List.length_cons, List.length_nil, List.map_cons, List.map_nil, List.sum_cons, List.sum_nil, List.nil_append, List.cons_append, Option.toList, Value.category, reduceIte, Nat.reduceAdd, Nat.reduceLeDiff, Nat.reduceLT, Nat.reduceEqDiff, Nat.reduceMul, and_true, true_and, and_self, Nat.zero_add, Nat.add_zero, Nat.le_refl, true_or, or_true, not_true_eq_false, not_false_eq_true, zm_ft_int, zm_ft_long, zm_ft_ref, zm_ft_null, zm_ft_b0, zm_ft_b1, i_2, i_3, i_4, i_10, io_16, io_64, io_33, io_2, cF_ev, cF_bm, va_rf, cH_0, cH_1, cH_2, cH_3, cH_4, cH_5, uT4, uT5, uT6, uT7, uB1, uB2, uB3, uG, uV, mH_0, mH_1, mH_2, mH_3, mH_4, mH_5, mH_6, mH_7, mH_8, mH_9, mH_10, mH_11, mH_12, mH_13, mH_14, mH_15, mH_16, mH_17, mH_18, mH_19, mH_20, mH_21, vI0, vI1, vI2, vI3, vI5, vI17, vI18, vI19, vA4, vA6, vA7, vA8, vA9, vA10, vA11, vA12, vA13, vA14, vA15, vA16, vA20, vA21, vA22, vA23, vA24, vA25, vA26, vA27, vD, d8, hr3, h30]
      refine ⟨fun z => absurd z (nI_ge p1 (by omega)), fun _ => ⟨fun _ => ⟨fun a => k182 (Or.inl a), fun a => ⟨fun b => k221 3 (by unfold ofU; rw [if_neg a, if_pos b]), fun b => k182 (Or.inr b)⟩⟩, fun z => absurd (by decide) z⟩⟩
  refine bkX4_measure_0 X [some (.ref q), some (.int (nI U)), some (.int (nI d)), some (.int 0), none, none, none, none, none, none] [] _ ?_
  simp only [zi_push, zi_ldi, zi_ldl, zi_lda, zi_sti, zi_stl, zi_sta, zi_inc, zi_b, zi_d, zi_u, zi_bl, zi_dl, zi_ul, zi_lcmp, zi_i2l, zi_l2i, zi_if, zi_ic, zi_nul, zi_dup, zi_pop, zi_dup_x1, zi_dup2, zi_gf, zi_pf, zi_ia, zi_is, zi_la, zi_lst, zi_aa, zi_as, zi_len, zi_new, zi_na, zi_mx, zi_mn, zi_sw, zi_swx, zi_cv, zi_cs, zi_ci, zi_obj, zi_iret, zi_lret, zi_zret, zi_aret, zi_vret, zm_s1, zm_s2, zm_k, zm_tk, zm_Rt, zm_is, List.getElem?_cons_zero, List.getElem?_cons_succ, List.set_cons_zero, List.set_cons_succ, List.length_cons, List.length_nil, List.map_cons, List.map_nil, List.sum_cons, List.sum_nil, List.nil_append, List.cons_append, Option.toList, Value.category, reduceIte, Nat.reduceAdd, Nat.reduceLeDiff, Nat.reduceLT, Nat.reduceEqDiff, Nat.reduceMul, and_true, true_and, and_self, Nat.zero_add, Nat.add_zero, Nat.le_refl, true_or, or_true, not_true_eq_false, not_false_eq_true, zm_ft_int, zm_ft_long, zm_ft_ref, zm_ft_null, zm_ft_b0, zm_ft_b1, i_2, i_3, i_4, i_10, io_16, io_64, io_33, io_2, cF_ev, cF_bm, va_rf, cH_0, cH_1, cH_2, cH_3, cH_4, cH_5, uT4, uT5, uT6, uT7, uB1, uB2, uB3, uG, uV, mH_0, mH_1, mH_2, mH_3, mH_4, mH_5, mH_6, mH_7, mH_8, mH_9, mH_10, mH_11, mH_12, mH_13, mH_14, mH_15, mH_16, mH_17, mH_18, mH_19, mH_20, mH_21, vI0, vI1, vI2, vI3, vI5, vI17, vI18, vI19, vA4, vA6, vA7, vA8, vA9, vA10, vA11, vA12, vA13, vA14, vA15, vA16, vA20, vA21, vA22, vA23, vA24, vA25, vA26, vA27, vD]
  refine bkX4_measure_9 X _ _ _ ?_
  simp only [zi_push, zi_ldi, zi_ldl, zi_lda, zi_sti, zi_stl, zi_sta, zi_inc, zi_b, zi_d, zi_u, zi_bl, zi_dl, zi_ul, zi_lcmp, zi_i2l, zi_l2i, zi_if, zi_ic, zi_nul, zi_dup, zi_pop, zi_dup_x1, zi_dup2, zi_gf, zi_pf, zi_ia, zi_is, zi_la, zi_lst, zi_aa, zi_as, zi_len, zi_new, zi_na, zi_mx, zi_mn, zi_sw, zi_swx, zi_cv, zi_cs, zi_ci, zi_obj, zi_iret, zi_lret, zi_zret, zi_aret, zi_vret, zm_s1, zm_s2, zm_k, zm_tk, zm_Rt, zm_is, List.getElem?_cons_zero, List.getElem?_cons_succ, List.set_cons_zero, List.set_cons_succ, List.length_cons, List.length_nil, List.map_cons, List.map_nil, List.sum_cons, List.sum_nil, List.nil_append, List.cons_append, Option.toList, Value.category, reduceIte, Nat.reduceAdd, Nat.reduceLeDiff, Nat.reduceLT, Nat.reduceEqDiff, Nat.reduceMul, and_true, true_and, and_self, Nat.zero_add, Nat.add_zero, Nat.le_refl, true_or, or_true, not_true_eq_false, not_false_eq_true, zm_ft_int, zm_ft_long, zm_ft_ref, zm_ft_null, zm_ft_b0, zm_ft_b1, i_2, i_3, i_4, i_10, io_16, io_64, io_33, io_2, cF_ev, cF_bm, va_rf, cH_0, cH_1, cH_2, cH_3, cH_4, cH_5, uT4, uT5, uT6, uT7, uB1, uB2, uB3, uG, uV, mH_0, mH_1, mH_2, mH_3, mH_4, mH_5, mH_6, mH_7, mH_8, mH_9, mH_10, mH_11, mH_12, mH_13, mH_14, mH_15, mH_16, mH_17, mH_18, mH_19, mH_20, mH_21, vI0, vI1, vI2, vI3, vI5, vI17, vI18, vI19, vA4, vA6, vA7, vA8, vA9, vA10, vA11, vA12, vA13, vA14, vA15, vA16, vA20, vA21, vA22, vA23, vA24, vA25, vA26, vA27, vD]
  refine ⟨fun _ => ⟨fun z => absurd z (by decide), fun _ => ⟨fun _ => ?_, fun z => absurd (by decide) z⟩⟩, fun z => absurd (by decide) z⟩
  refine bkX4_measure_74 X _ _ _ ?_
  simp only [zi_push, zi_ldi, zi_ldl, zi_lda, zi_sti, zi_stl, zi_sta, zi_inc, zi_b, zi_d, zi_u, zi_bl, zi_dl, zi_ul, zi_lcmp, zi_i2l, zi_l2i, zi_if, zi_ic, zi_nul, zi_dup, zi_pop, zi_dup_x1, zi_dup2, zi_gf, zi_pf, zi_ia, zi_is, zi_la, zi_lst, zi_aa, zi_as, zi_len, zi_new, zi_na, zi_mx, zi_mn, zi_sw, zi_swx, zi_cv, zi_cs, zi_ci, zi_obj, zi_iret, zi_lret, zi_zret, zi_aret, zi_vret, zm_s1, zm_s2, zm_k, zm_tk, zm_Rt, zm_is, List.getElem?_cons_zero, List.getElem?_cons_succ, List.set_cons_zero, List.set_cons_succ, List.length_cons, List.length_nil, List.map_cons, List.map_nil, List.sum_cons, List.sum_nil, List.nil_append, List.cons_append, Option.toList, Value.category, reduceIte, Nat.reduceAdd, Nat.reduceLeDiff, Nat.reduceLT, Nat.reduceEqDiff, Nat.reduceMul, and_true, true_and, and_self, Nat.zero_add, Nat.add_zero, Nat.le_refl, true_or, or_true, not_true_eq_false, not_false_eq_true, zm_ft_int, zm_ft_long, zm_ft_ref, zm_ft_null, zm_ft_b0, zm_ft_b1, i_2, i_3, i_4, i_10, io_16, io_64, io_33, io_2, cF_ev, cF_bm, va_rf, cH_0, cH_1, cH_2, cH_3, cH_4, cH_5, uT4, uT5, uT6, uT7, uB1, uB2, uB3, uG, uV, mH_0, mH_1, mH_2, mH_3, mH_4, mH_5, mH_6, mH_7, mH_8, mH_9, mH_10, mH_11, mH_12, mH_13, mH_14, mH_15, mH_16, mH_17, mH_18, mH_19, mH_20, mH_21, vI0, vI1, vI2, vI3, vI5, vI17, vI18, vI19, vA4, vA6, vA7, vA8, vA9, vA10, vA11, vA12, vA13, vA14, vA15, vA16, vA20, vA21, vA22, vA23, vA24, vA25, vA26, vA27, vD, u2, hd0]
  rw [m0_eq]
  refine bkX4_measure_110 X _ _ _ ?_
  simp only [zi_push, zi_ldi, zi_ldl, zi_lda, zi_sti, zi_stl, zi_sta, zi_inc, zi_b, zi_d, zi_u, zi_bl, zi_dl, zi_ul, zi_lcmp, zi_i2l, zi_l2i, zi_if, zi_ic, zi_nul, zi_dup, zi_pop, zi_dup_x1, zi_dup2, zi_gf, zi_pf, zi_ia, zi_is, zi_la, zi_lst, zi_aa, zi_as, zi_len, zi_new, zi_na, zi_mx, zi_mn, zi_sw, zi_swx, zi_cv, zi_cs, zi_ci, zi_obj, zi_iret, zi_lret, zi_zret, zi_aret, zi_vret, zm_s1, zm_s2, zm_k, zm_tk, zm_Rt, zm_is, List.getElem?_cons_zero, List.getElem?_cons_succ, List.set_cons_zero, List.set_cons_succ, List.length_cons, List.length_nil, List.map_cons, List.map_nil, List.sum_cons, List.sum_nil, List.nil_append, List.cons_append, Option.toList, Value.category, reduceIte, Nat.reduceAdd, Nat.reduceLeDiff, Nat.reduceLT, Nat.reduceEqDiff, Nat.reduceMul, and_true, true_and, and_self, Nat.zero_add, Nat.add_zero, Nat.le_refl, true_or, or_true, not_true_eq_false, not_false_eq_true, zm_ft_int, zm_ft_long, zm_ft_ref, zm_ft_null, zm_ft_b0, zm_ft_b1, i_2, i_3, i_4, i_10, io_16, io_64, io_33, io_2, cF_ev, cF_bm, va_rf, cH_0, cH_1, cH_2, cH_3, cH_4, cH_5, uT4, uT5, uT6, uT7, uB1, uB2, uB3, uG, uV, mH_0, mH_1, mH_2, mH_3, mH_4, mH_5, mH_6, mH_7, mH_8, mH_9, mH_10, mH_11, mH_12, mH_13, mH_14, mH_15, mH_16, mH_17, mH_18, mH_19, mH_20, mH_21, vI0, vI1, vI2, vI3, vI5, vI17, vI18, vI19, vA4, vA6, vA7, vA8, vA9, vA10, vA11, vA12, vA13, vA14, vA15, vA16, vA20, vA21, vA22, vA23, vA24, vA25, vA26, vA27, vD]
  refine ⟨fun _ => ?_, fun z => absurd (by decide) z⟩
  have h := key (b_many U d) 0 (r_m0 M U (256 / d)) (some (.int 1)) (by omega) (by unfold r_m0; rw [mI_tI, upd_ne _ _ (by decide), mI_tI, upd_ne _ _ (by decide), mI_tI, upd_at]) (by unfold r_m0; rw [mI_tI, upd_at]; rfl) rfl
  rw [pU_0 hU] at h
  exact h
end
