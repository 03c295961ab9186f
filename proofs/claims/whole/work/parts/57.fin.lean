theorem st_aim2 {E E' : cS} {a : Nat} (h : ∀ k, k ≠ 10 → k ≠ 11 → cE E' a k = cE E a k) {wy : Int32} (hA : eAim E wy a) : eAim E' wy a := by
  obtain ⟨h1, h2, h3, h4⟩ := hA
  have h8 := h 8 (by decide) (by decide)
  have h7 := h 7 (by decide) (by decide)
  have h6 := h 6 (by decide) (by decide)
  have h2' := h 2 (by decide) (by decide)
  unfold eAim c_dir e_near e_want e_near e_more e_lev at *
  rw [h 12 (by decide) (by decide), h 13 (by decide) (by decide), h 14 (by decide) (by decide), h 15 (by decide) (by decide), h8, h7, h6, h2']
  exact ⟨h1, h2, h3, h4⟩
theorem aimK_ne (D : cS) (j : Nat) (wy : Int32) (a x : Nat) : ∀ (m i : Nat) (E : cS), (∀ k, k < i + m → a ≠ cN D j k) → cE (itr (m_aimK D j wy) m i E) a x = cE E a x
  | 0, _, _, _ => rfl
  | m + 1, i, E, h => by
    rw [itr, aimK_ne D j wy a x m (i + 1) _ (fun k hk => h k (by omega))]
    unfold m_aimK
    rw [e_aim_ne _ _ _ (h i (by omega))]
theorem holdK_ne (D : cS) (j : Nat) (num : Int32) (a x : Nat) : ∀ (m i : Nat) (E : cS), (∀ k, k < i + m → a ≠ cN D j k) → cE (itr (m_hold D j num) m i E) a x = cE E a x
  | 0, _, _, _ => rfl
  | m + 1, i, E, h => by
    rw [itr, holdK_ne D j num a x m (i + 1) _ (fun k hk => h k (by omega))]
    unfold m_hold
    rw [cE_sE, up2_ne _ _ (h i (by omega)), cE_sE, up2_ne _ _ (h i (by omega))]
theorem holdK_all (D : cS) (j : Nat) (num : Int32) (S : Nat) (hinj : ∀ a b, a < S → b < S → cN D j a = cN D j b → a = b) : ∀ (m i : Nat) (E : cS), i + m ≤ S → (∀ k, k < i → cE E (cN D j k) 10 = num ∧ cE E (cN D j k) 11 = nI k) → ∀ k, k < i + m → cE (itr (m_hold D j num) m i E) (cN D j k) 10 = num ∧ cE (itr (m_hold D j num) m i E) (cN D j k) 11 = nI k
  | 0, i, E, _, h, k, hk => h k (by omega)
  | m + 1, i, E, hS, h, k, hk => by
    rw [itr]
    refine holdK_all D j num S hinj m (i + 1) _ (by omega) (fun a ha => ?_) k (by omega)
    unfold m_hold
    by_cases e : a = i
    · subst e
      rw [cE_sE, up2_k _ _ (by decide), cE_sE, up2_eq, if_pos rfl, up2_eq, if_pos rfl]
      exact ⟨rfl, rfl⟩
    · have hne : cN D j a ≠ cN D j i := fun r => e (hinj a i (by omega) (by omega) r)
      rw [cE_sE, up2_ne _ _ hne, cE_sE, up2_ne _ _ hne]
      exact h a (by omega)
theorem con_lt {C : cS} {b : Nat} (h : bCon C b) : ∀ (z a : Nat), a + z + 1 < csz C b → cN C b a < cN C b (a + z + 1)
  | 0, a, hz => (h.2 a hz).1
  | z + 1, a, hz => by
    have h1 := con_lt h z a (by omega)
    have h2 := (h.2 (a + z + 1) (by omega)).1
    have e : a + (z + 1) + 1 = a + z + 1 + 1 := by omega
    rw [e]
    omega
theorem con_inj {C : cS} {b : Nat} (h : bCon C b) : ∀ x y, x < csz C b → y < csz C b → cN C b x = cN C b y → x = y := by
  intro x y hx hy e
  rcases Nat.lt_trichotomy x y with h1 | h1 | h1
  · have := con_lt h (y - x - 1) x (by omega)
    rw [show x + (y - x - 1) + 1 = y by omega] at this
    omega
  · exact h1
  · have := con_lt h (x - y - 1) y (by omega)
    rw [show y + (x - y - 1) + 1 = x by omega] at this
    omega
theorem r_set_23 (M : mS) (b : Nat) (t : Int64 × Int32 × Int32) : mA (r_set M b t) 23 b = t.2.1 := by
  unfold r_set
  rw [tA_ne _ _ _ (by decide), tA_at, upd_at]
theorem r_set_24 (M : mS) (b : Nat) (t : Int64 × Int32 × Int32) : mA (r_set M b t) 24 b = t.2.2 := by
  unfold r_set
  rw [tA_at, upd_at]
theorem upd_ne (g : Nat → Int32) {a b : Nat} (x : Int32) (h : a ≠ b) : upd g b x a = g a := by simp [upd, h]
theorem tA_i (M : mS) (k i : Nat) (x : Int32) {k' i' : Nat} (h : i' ≠ i) : mA (tA M k i x) k' i' = mA M k' i' := by
  rw [mA_tA]
  simp [up2, h]
theorem r_e5_ne (D : cS) (M : mS) {j b : Nat} (h : b ≠ j) (k : Nat) : mA (r_e5 D M j) k b = mA M k b := by
  unfold r_e5 r_set r_e4 r_e3 r_e2 r_e1
  rw [tA_i _ _ _ _ h, tA_i _ _ _ _ h, mA_tD, tA_i _ _ _ _ h, tA_i _ _ _ _ h, tA_i _ _ _ _ h, tA_i _ _ _ _ h, tA_i _ _ _ _ h]
theorem r_e5_A (D : cS) (M : mS) (j : Nat) {k : Nat} (h : k < 20 ∨ k = 21) : mA (r_e5 D M j) k = mA M k := by
  unfold r_e5
  rw [r_set_A _ _ _ (by omega) (by omega), r_e4_A _ _ _ (by omega)]
theorem r_e5_mD (D : cS) (M : mS) {j b : Nat} (h : b ≠ j) : mD (r_e5 D M j) b = mD M b := by
  show vp_updL (mD M) j _ b = mD M b
  simp [vp_updL, h]
theorem r_e4_27 (D : cS) (M : mS) (b : Nat) : mA (r_e4 D M b) 27 b = 0 := by
  unfold r_e4 r_e3 r_e2 r_e1
  rw [tA_ne _ _ _ (by decide), tA_ne _ _ _ (by decide), tA_ne _ _ _ (by decide), tA_at, upd_at]
theorem nI_ne_none {b : Nat} (h : b ≤ 64) : nI b ≠ -1001 := by
  intro e
  have : (0 : Int32) ≤ nI b := nI_pos' (by omega)
  rw [e] at this
  exact absurd this (by decide)
def qR (D : cS) (M : mS) (ec gc : Nat) (v : Int32) (i j : Nat) : Prop := rR D M ec j gc ∧ bN0 D M j ec ∧ (∀ k, k < csz D j → cE D (cN D j k) 10 = -1001 ∧ cE D (cN D j k) 1 = v ∧ cN D j k < i) ∧ bCon D j ∧ cM D j 6 = 0 ∧ ∀ e, i ≤ e → e < ec → cE D e 1 = v → cE D e 10 = -1001
theorem next_q {D : cS} {M : mS} {ec gc i j : Nat} {v : Int32} (h : rR D M ec j gc) (h7 : ∀ e, i ≤ e → e < ec → cE D e 1 = v → cE D e 10 = -1001) : c_nextB D = j ∧ csz (c_next D) j = 0 ∧ qR (c_next D) M ec gc v i j := by
  obtain ⟨r1, r2, r3, r4, r5, r6, r7, r8, r9, r10⟩ := h
  obtain ⟨g1, g2, g3⟩ := next_I (cnt := 64) r2 r7.2.2.1 r1 r5 r3 (by omega)
  have hM : ∀ b k, b ≠ j → cM (c_next D) b k = cM D b k := fun b k hb => by
    unfold c_next
    rw [g1, cM_sM, up2_ne _ _ hb, cM_sM, up2_ne _ _ hb]
  have hz : ∀ b, b ≠ j → csz (c_next D) b = csz D b := fun b hb => congrArg Int32.toNatClampNeg (hM b 1 hb)
  refine ⟨g1, g2, ⟨g3.2.2.1, r2, r3, r4, r5, eR_C (D := D) (fun a k _ => rfl) r6, gR_keep (C := D) rfl rfl rfl rfl rfl r7, r8, fun b hb => ?_, fun e he => ?_⟩, ⟨by omega, by rw [g2]; omega, fun k hk => ?_⟩, fun k hk => ?_, ⟨fun k hk => ?_, fun k hk => ?_⟩, ?_, h7⟩
  · exact bW_keep (fun k => hM b k (by omega)) (fun k => rfl) rfl (fun a k _ => rfl) (fun k _ x => rfl) (fun k _ _ _ => rfl) (fun k _ => rfl) rfl (r9 b hb)
  · rcases r10 e he with h | ⟨b, k, h1, h2, h3⟩
    · exact Or.inl h
    · refine Or.inr ⟨b, k, h1, ?_, h3⟩
      rw [hz b (by omega)]
      exact h2
  · rw [g2] at hk
    omega
  · rw [g2] at hk
    omega
  · rw [g2] at hk
    omega
  · rw [g2] at hk
    omega
  · unfold c_next
    rw [g1, cM_sM, up2_eq, if_pos rfl]
theorem add_q {D : cS} {M : mS} {ec gc i j : Nat} {v : Int32} (h : qR D M ec gc v i j) (hi : i < ec) (hv : cE D i 1 = v) (hn : ¬ cE D i 5 = 0) (hs : ¬ cE D i 2 < 3) (h16 : csz D j < 16) (hc : 0 < csz D j → ∀ e, cN D j (csz D j - 1) < e → e < i → cE D e 1 = v → cE D e 5 = 0) : c_add D j i = sM (sN D j (csz D j) i) j 1 (nI (csz D j + 1)) ∧ csz (c_add D j i) j = csz D j + 1 ∧ cN (c_add D j i) j (csz D j) = i ∧ qR (c_add D j i) (tA M 21 (16 * j + csz D j) (nI i)) ec gc v (i + 1) j := by
  obtain ⟨⟨r1, r2, r3, r4, r5, r6, r7, r8, r9, r10⟩, ⟨b1, b2, b3⟩, q3, q4, q5, q6⟩ := h
  have hadd : c_add D j i = sM (sN D j (csz D j) i) j 1 (nI (csz D j + 1)) := by
    unfold c_add
    rw [if_pos h16]
  have hec := r6.1
  have hgI : gI D j ec gc 80 := ⟨r2, r7.2.2.1, r1, by omega, j, r3, by omega⟩
  have hrows := (add_I hgI (show i ≤ 64 by omega)).2.2.1
  have hM : ∀ b k, (b ≠ j ∨ k ≠ 1) → cM (c_add D j i) b k = cM D b k := fun b k hb => by
    rw [hadd, cM_sM, cM_sN]
    unfold up2
    rw [if_neg (by omega)]
  have hN : ∀ b k, (b ≠ j ∨ k ≠ csz D j) → cN (c_add D j i) b k = cN D b k := fun b k hb => by
    rw [hadd, cN_sM, cN_sN]
    unfold up2
    rw [if_neg (by omega)]
  have hNi : cN (c_add D j i) j (csz D j) = i := by
    rw [hadd, cN_sM, cN_sN, up2_eq, if_pos rfl]
  have hz : csz (c_add D j i) j = csz D j + 1 := csz_of (by rw [hadd, cM_sM, up2_eq, if_pos rfl]) (by omega)
  have hzb : ∀ b, b ≠ j → csz (c_add D j i) b = csz D b := fun b hb => congrArg Int32.toNatClampNeg (hM b 1 (Or.inl hb))
  have hE : cE (c_add D j i) = cE D := c_add_E D j i
  have e5 : ∀ M' : mS, mI (tA M' 21 (16 * j + csz D j) (nI i)) = mI M' := fun _ => rfl
  have hA : ∀ k, k ≠ 21 → mA (tA M 21 (16 * j + csz D j) (nI i)) k = mA M k := fun k hk => tA_ne _ _ _ hk
  refine ⟨hadd, hz, hNi, ⟨hrows, ?_, ?_, r4, r5, ?_, ?_, ?_, fun b hb => ?_, fun e he => ?_⟩, ⟨b1, by omega, fun k hk => ?_⟩, fun k hk => ?_, ⟨fun k hk => ?_, fun k hk => ?_⟩, ?_, fun e h1 h2 h3 => ?_⟩
  · rw [hadd]
    exact r2
  · rw [hadd]
    exact r3
  · exact eR_C (D := D) (fun a k _ => by rw [hE]) (eR_of (M := M) rfl (fun k h1 h2 => hA k (by omega)) r6)
  · exact gR_keep (C := D) (M := M) (by rw [hadd]; rfl) (by rw [hadd]; rfl) rfl rfl (hA 4 (by decide)) r7
  · unfold vR
    rw [hA 16 (by decide), e5, hadd]
    exact r8
  · have hbj : b ≠ j := by omega
    refine bW_keep (M := M) (fun k => hM b k (Or.inl hbj)) (fun k => hN b k (Or.inl hbj)) (by rw [hadd]; rfl) (fun a k _ => by rw [hE]) (fun k _ x => by rw [hE]) (fun k h1 h2 h3 => by rw [hA k h3]) (fun k hk => ?_) rfl (r9 b hb)
    rw [tA_i _ _ _ _ (by omega)]
  · rcases r10 e he with h | ⟨b, k, h1, h2, h3⟩
    · refine Or.inl ?_
      rw [hE]
      exact h
    · refine Or.inr ⟨b, k, h1, ?_, ?_⟩
      · rw [hzb b (by omega)]
        exact h2
      · rw [hN b k (Or.inl (by omega))]
        exact h3
  · rw [hz] at hk
    rw [hE]
    by_cases e : k = csz D j
    · subst e
      rw [hNi, tA_at, upd_at]
      refine ⟨rfl, hi, hn, ?_⟩
      obtain ⟨x, x1, x2, x3⟩ := (r6.2.2 i hi).2.1.2.1
      rw [x3, show (3 : Int32) = zI 3 from rfl, zI_lt (by omega) (by omega) (by omega) (by omega)] at hs
      exact ⟨x, by omega, x2, x3⟩
    · rw [hN j k (Or.inr e), tA_i _ _ _ _ (by omega)]
      exact b3 k (by omega)
  · rw [hz] at hk
    rw [hE]
    by_cases e : k = csz D j
    · subst e
      rw [hNi]
      exact ⟨q6 i (Nat.le_refl _) hi hv, hv, by omega⟩
    · rw [hN j k (Or.inr e)]
      obtain ⟨c1, c2, c3⟩ := q3 k (by omega)
      exact ⟨c1, c2, by omega⟩
  · rw [hz] at hk
    rw [hE]
    have h0 : cE D (cN (c_add D j i) j 0) 1 = v := by
      by_cases e : 0 = csz D j
      · have : cN (c_add D j i) j 0 = i := by
          have := hNi
          rw [← e] at this
          exact this
        rw [this]
        exact hv
      · rw [hN j 0 (Or.inr e)]
        exact (q3 0 (by omega)).2.1
    rw [h0]
    by_cases e : k = csz D j
    · subst e
      rw [hNi]
      exact hv
    · rw [hN j k (Or.inr e)]
      exact (q3 k (by omega)).2.1
  · rw [hz] at hk
    rw [hE]
    have h0 : cE D (cN (c_add D j i) j 0) 1 = v := by
      rw [hN j 0 (Or.inr (by omega))]
      exact (q3 0 (by omega)).2.1
    rw [h0, hN j k (Or.inr (by omega))]
    by_cases e : k + 1 = csz D j
    · rw [e, hNi]
      have ek : k = csz D j - 1 := by omega
      refine ⟨(q3 k (by omega)).2.2, ?_⟩
      rw [ek]
      exact hc (by omega)
    · rw [hN j (k + 1) (Or.inr e)]
      obtain ⟨d1, d2⟩ := q4.2 k (by omega)
      refine ⟨d1, fun x x1 x2 x3 => d2 x x1 x2 ?_⟩
      rw [(q3 0 (by omega)).2.1]
      exact x3
  · rw [hM j 6 (Or.inr (by decide))]
    exact q5
  · rw [hE] at h3 ⊢
    exact q6 e (by omega) h2 h3
theorem q_mono {D : cS} {M : mS} {ec gc i j : Nat} {v : Int32} (h : qR D M ec gc v i j) : qR D M ec gc v (i + 1) j := by
  obtain ⟨h1, h2, h3, h4, h5, h6⟩ := h
  exact ⟨h1, h2, fun k hk => ⟨(h3 k hk).1, (h3 k hk).2.1, by have := (h3 k hk).2.2; omega⟩, h4, h5, fun e h => h6 e (by omega)⟩
/-- a row is finished: what else stands is as it was -/
theorem fin_q {D : cS} {M : mS} {ec gc i j : Nat} {v : Int32} (h : qR D M ec gc v i j) (h32 : ∃ b, b ≤ 32 ∧ cT (c_fin D j) 5 = nI b) : ∃ j', cT (c_fin D j) 5 = nI j' ∧ rR (c_fin D j) (r_ends D M j) ec j' gc ∧ ∀ e, i ≤ e → e < ec → cE (c_fin D j) e 1 = v → cE (c_fin D j) e 10 = -1001 := by
  have hq := h
  obtain ⟨⟨r1, r2, r3, r4, r5, r6, r7, r8, r9, r10⟩, hb0, q3, q4, q5, q6⟩ := h
  by_cases hs : csz D j < 2
  · have e1 : c_fin D j = D := by unfold c_fin; rw [if_pos hs]
    have e2 : r_ends D M j = M := by unfold r_ends; rw [if_pos hs]
    rw [e1, e2]
    exact ⟨j, r3, hq.1, q6⟩
  · obtain ⟨-, -, c1, c2, c3, c4, c5, c6, c7, zF, -⟩ := e4_rel r6 hb0
    have hT : tEq (r_eT D M j) (c_finT D j) := by
      have := fi_tEq c1 c2 c3 (by rw [zF]; omega) c7 (mA M 23 j) (mA M 24 j)
      rw [zF] at this
      exact this
    -- events that are not in the row stand
    have hout : ∀ a x, (∀ k, k < csz D j → a ≠ cN D j k) → cE (c_fin2 D j) a x = cE D a x := by
      intro a x ha
      have : cE (c_fin2 D j) a x = cE (m_aim D j (csz D j) (c_two D)) a x := rfl
      rw [this]
      unfold m_aim
      rw [aimK_ne D j _ a x _ _ _ (fun k hk => ha k (by omega))]
      rfl
    have hmemb : ∀ b, b < j → ∀ k, k < csz D b → ∀ k', k' < csz D j → cN D b k ≠ cN D j k' := by
      intro b hb k hk k' hk' e
      have m1 := ((r9 b hb).2.2.2.2.1 k hk).1
      rw [e, (q3 k' hk').1] at m1
      exact nI_ne_none (show b ≤ 64 by omega) m1.symm
    have cMb : ∀ b k, b ≠ j → cM (c_fin2 D j) b k = cM D b k := by
      intro b k hb
      unfold c_fin2 m_set
      rw [cM_sM, up2_ne _ _ hb, cM_sM, up2_ne _ _ hb, cM_sD]
      show up2 (up2 (cM (m_aim D j (csz D j) (c_two D))) j 7 _) j 5 _ b k = _
      rw [up2_ne _ _ hb, up2_ne _ _ hb, m_aim_M, up2_ne _ _ hb]
    have cDb : ∀ b, b ≠ j → cD (c_fin2 D j) b = cD D b := by
      intro b hb
      show vp_updL (cD (m_aim D j (csz D j) (c_two D))) j _ b = _
      rw [m_aim_D]
      simp [vp_updL, hb]
    have st2 : ∀ a k, (k < 10 ∨ 15 < k) → cE (c_fin2 D j) a k = cE D a k := fun a k hk => c_fin2_E D j a (by omega)
    have eM : ∀ (C' : cS) (M' : mS), (∀ a k, (k < 10 ∨ 15 < k) → cE C' a k = cE D a k) → mI M' 5 = mI M 5 → (∀ k, k < 20 → mA M' k = mA (r_e5 D M j) k) → eR C' M' ec := fun C' M' h1 h2 h3 => eR_C h1 (eR_of (M := M) h2 (fun k k1 k2 => by rw [h3 k (by omega), r_e5_A D M j (by omega)]) r6)
    have hE : r_ends D M j = if (r_eT D M j).1 < 0 then tI (r_e5 D M j) 19 (mI M 19 + 1) else tI (r_e5 D M j) 18 (mI M 18 + 1) := by rw [r_ends, if_neg (by omega)]
    have hF : c_fin D j = if (c_finT D j).1 < 0 then sT (c_fin2 D j) 6 (cT (c_fin2 D j) 6 + 1) else sT (itr (m_hold (c_fin2 D j) j (cT (c_fin2 D j) 5)) (csz D j) 0 (c_fin2 D j)) 5 (cT (c_fin2 D j) 5 + 1) := by rw [c_fin, if_neg hs]
    have i5 : ∀ k, mI (r_e5 D M j) k = mI M k := fun k => rfl
    by_cases p : (c_finT D j).1 < 0
    · rw [if_pos (by rw [hT.1]; exact p)] at hE
      rw [if_pos p] at hF
      have hrows : cRows (c_fin D j) := cRows_M (c_fin_M1 D j) (c_fin_N D j) r1
      have hN := c_fin_N D j
      rw [hE]
      rw [hF] at hrows hN ⊢
      have t5 : cT (sT (c_fin2 D j) 6 (cT (c_fin2 D j) 6 + 1)) 5 = nI j := by
        rw [cT_sT, c_fin2_T]
        exact r3
      refine ⟨j, t5, ⟨hrows, ?_, t5, r4, r5, ?_, ?_, ?_, fun b hb => ?_, fun e he => ?_⟩, fun e h1 h2 h3 => ?_⟩
      · rw [cT_sT, c_fin2_T]
        exact r2
      · exact eM _ _ st2 rfl (fun k hk => rfl)
      · refine gR_keep (C := D) (M := M) (c_fin2_B D j) (c_fin2_G D j) rfl rfl ?_ r7
        exact r_e5_A D M j (by omega)
      · obtain ⟨v1, v2, v3, v4, v5⟩ := r8
        unfold vR
        rw [cT_sT, c_fin2_T]
        refine ⟨?_, ?_, v3, v4, ?_⟩
        · show mA (r_e5 D M j) 16 0 = cV (c_fin2 D j) 0
          rw [r_e5_A D M j (by omega), c_fin2_V]
          exact v1
        · show mA (r_e5 D M j) 16 1 = cV (c_fin2 D j) 1
          rw [r_e5_A D M j (by omega), c_fin2_V]
          exact v2
        · show upd (mI M) 19 (mI M 19 + 1) 19 = upd (cT D) 6 (cT D 6 + 1) 6
          rw [upd_at, upd_at, v5]
      · have hbj : b ≠ j := by omega
        refine bW_keep (M := M) (fun k => cMb b k hbj) (fun k => ?_) (cDb b hbj) st2 (fun k hk x => hout _ x (hmemb b hb k hk)) (fun k _ _ _ => r_e5_ne D M hbj k) (fun k hk => ?_) (r_e5_mD D M hbj) (r9 b hb)
        · show cN (c_fin2 D j) b k = cN D b k
          rw [c_fin2_N]
        · show mA (r_e5 D M j) 21 _ = _
          rw [r_e5_A D M j (by omega)]
      · have e10 : cE (sT (c_fin2 D j) 6 (cT (c_fin2 D j) 6 + 1)) e 10 = cE D e 10 := c_fin2_E D j e (by omega)
        rw [e10]
        rcases r10 e he with h | ⟨b, k, h1, h2, h3⟩
        · exact Or.inl h
        · refine Or.inr ⟨b, k, h1, ?_, ?_⟩
          · have : csz (sT (c_fin2 D j) 6 (cT (c_fin2 D j) 6 + 1)) b = csz D b := congrArg Int32.toNatClampNeg (cMb b 1 (by omega))
            rw [this]
            exact h2
          · rw [hN]
            exact h3
      · have e10 : cE (sT (c_fin2 D j) 6 (cT (c_fin2 D j) 6 + 1)) e 10 = cE D e 10 := c_fin2_E D j e (by omega)
        have e1 : cE (sT (c_fin2 D j) 6 (cT (c_fin2 D j) 6 + 1)) e 1 = cE D e 1 := c_fin2_E D j e (by omega)
        rw [e10]
        rw [e1] at h3
        exact q6 e h1 h2 h3
    · rw [if_neg (by rw [hT.1]; exact p)] at hE
      rw [if_neg p] at hF
      have hTe : r_eT D M j = c_finT D j := hT.2 (by rw [hT.1]; exact p)
      have hrows : cRows (c_fin D j) := cRows_M (c_fin_M1 D j) (c_fin_N D j) r1
      have hN := c_fin_N D j
      have hN2 := c_fin2_N D j
      have hj32 : j + 1 ≤ 32 := by
        obtain ⟨b, b1, b2⟩ := h32
        rw [hF, cT_sT, upd_at, c_fin2_T, r3, nI_1, nI_eq (by omega) (by omega)] at b2
        omega
      rw [hE]
      rw [hF] at hrows hN ⊢
      have t5 : cT (sT (itr (m_hold (c_fin2 D j) j (cT (c_fin2 D j) 5)) (csz D j) 0 (c_fin2 D j)) 5 (cT (c_fin2 D j) 5 + 1)) 5 = nI (j + 1) := by
        rw [cT_sT, upd_at, c_fin2_T, r3, nI_1]
      have num : cT (c_fin2 D j) 5 = nI j := by rw [c_fin2_T]; exact r3
      have hin : ∀ a c, a < csz D j → c < csz D j → cN (c_fin2 D j) j a = cN (c_fin2 D j) j c → a = c := by
        rw [hN2]
        exact con_inj q4
      have hold := holdK_all (c_fin2 D j) j (cT (c_fin2 D j) 5) (csz D j) hin (csz D j) 0 (c_fin2 D j) (by omega) (fun k hk => absurd hk (by omega))
      -- the state behind it
      have fE : ∀ a x, cE (sT (itr (m_hold (c_fin2 D j) j (cT (c_fin2 D j) 5)) (csz D j) 0 (c_fin2 D j)) 5 (cT (c_fin2 D j) 5 + 1)) a x = cE (itr (m_hold (c_fin2 D j) j (cT (c_fin2 D j) 5)) (csz D j) 0 (c_fin2 D j)) a x := fun a x => rfl
      have hst : ∀ a x, x ≠ 10 → x ≠ 11 → cE (itr (m_hold (c_fin2 D j) j (cT (c_fin2 D j) 5)) (csz D j) 0 (c_fin2 D j)) a x = cE (c_fin2 D j) a x := fun a x h1 h2 => itr_keep (fun E : cS => cE E a x) (m_hold (c_fin2 D j) j (cT (c_fin2 D j) 5)) (fun k E => m_hold_E (c_fin2 D j) j _ k E a h1 h2) _ _ _
      have hst1 : ∀ a k, (k < 10 ∨ 15 < k) → cE (itr (m_hold (c_fin2 D j) j (cT (c_fin2 D j) 5)) (csz D j) 0 (c_fin2 D j)) a k = cE D a k := fun a k hk => by
        rw [hst a k (by omega) (by omega)]
        exact st2 a k hk
      have hne : ∀ a x, (∀ k, k < csz D j → a ≠ cN D j k) → cE (itr (m_hold (c_fin2 D j) j (cT (c_fin2 D j) 5)) (csz D j) 0 (c_fin2 D j)) a x = cE D a x := fun a x ha => by
        rw [holdK_ne _ _ _ _ _ _ _ _ (fun k hk => by rw [hN2]; exact ha k (by omega))]
        exact hout a x ha
      have hM : ∀ b k, cM (sT (itr (m_hold (c_fin2 D j) j (cT (c_fin2 D j) 5)) (csz D j) 0 (c_fin2 D j)) 5 (cT (c_fin2 D j) 5 + 1)) b k = cM (c_fin2 D j) b k := fun b k => by
        rw [cM_sT, c_hold_M]
      have hD : ∀ b, cD (sT (itr (m_hold (c_fin2 D j) j (cT (c_fin2 D j) 5)) (csz D j) 0 (c_fin2 D j)) 5 (cT (c_fin2 D j) 5 + 1)) b = cD (c_fin2 D j) b := fun b => by
        rw [cD_sT, c_hold_D]
      have zj : csz (sT (itr (m_hold (c_fin2 D j) j (cT (c_fin2 D j) 5)) (csz D j) 0 (c_fin2 D j)) 5 (cT (c_fin2 D j) 5 + 1)) j = csz D j := congrArg Int32.toNatClampNeg (by rw [hM, c_fin2_M1])
      have zb' : ∀ b, b ≠ j → csz (sT (itr (m_hold (c_fin2 D j) j (cT (c_fin2 D j) 5)) (csz D j) 0 (c_fin2 D j)) 5 (cT (c_fin2 D j) 5 + 1)) b = csz D b := fun b hb => congrArg Int32.toNatClampNeg (by rw [hM, cMb b 1 hb])
      have mF1 : ∀ k, k ≠ 3 → k ≠ 4 → cM (c_fin2 D j) j k = cM (c_fin1 D j) j k := fun k h3 h4 => m_set_M _ _ _ h3 h4
      refine ⟨j + 1, t5, ⟨hrows, ?_, t5, ?_, by omega, ?_, ?_, ?_, fun b hb => ?_, fun e he => ?_⟩, fun e h1 h2 h3 => ?_⟩
      · rw [cT_sT, c_hold_T, c_fin2_T]
        exact r2
      · show upd (mI M) 18 (mI M 18 + 1) 18 = _
        rw [upd_at, r4, nI_1]
      · exact eM _ _ hst1 rfl (fun k hk => rfl)
      · refine gR_keep (C := D) (M := M) ?_ ?_ rfl rfl ?_ r7
        · rw [cB_sT, c_hold_B, c_fin2_B]
        · rw [cG_sT, c_hold_G, c_fin2_G]
        · exact r_e5_A D M j (by omega)
      · obtain ⟨v1, v2, v3, v4, v5⟩ := r8
        unfold vR
        rw [cT_sT, c_hold_T, c_fin2_T, cV_sT, c_hold_V, c_fin2_V]
        refine ⟨?_, ?_, v3, v4, v5⟩
        · show mA (r_e5 D M j) 16 0 = _
          rw [r_e5_A D M j (by omega)]
          exact v1
        · show mA (r_e5 D M j) 16 1 = _
          rw [r_e5_A D M j (by omega)]
          exact v2
      · by_cases hbj : b = j
        · subst hbj
          refine ⟨⟨c2.1, by rw [zj]; exact hb0.2.1, ?_, fun k hk => ?_⟩, ⟨?_, ?_, fun k hk => ?_⟩, by rw [zj]; omega, ⟨?_, ?_, ?_, ?_, ?_, ?_, ?_, ?_⟩, fun k hk => ?_, ⟨fun k hk => ?_, fun k hk => ?_⟩⟩
          · rw [zj]
            show mA (r_e5 D M b) 20 b = _
            unfold r_e5
            rw [r_set_A _ _ _ (by decide) (by decide), r_e4_20, upd_at]
          · rw [zj] at hk
            rw [fE, fE, hst1 _ 5 (by omega), hst1 _ 2 (by omega), hN]
            show mA (r_e5 D M b) 21 _ = _ ∧ _
            rw [r_e5_A D M b (by omega)]
            exact hb0.2.2 k hk
          · show mA (r_e5 D M b) 22 b = _
            rw [hM, mF1 2 (by decide) (by decide), ← c3.1]
            unfold r_e5
            rw [r_set_A _ _ _ (by decide) (by decide)]
          · rw [hM, mF1 2 (by decide) (by decide)]
            exact c3.2.1
          · rw [zj] at hk
            rw [hM, mF1 2 (by decide) (by decide), hN]
            have hA := c3.2.2 k (by rw [zF]; exact hk)
            rw [c_fin1_N] at hA
            exact st_aim2 (fun x h1 h2 => by rw [fE, hst _ x h1 h2]; rfl) hA
          · show mA (r_e5 D M b) 23 b = _
            unfold r_e5
            rw [r_set_23, hM, hTe]
            show _ = up2 _ b 4 _ b 3
            rw [up2_k _ _ (by decide)]
            show _ = up2 _ b 3 _ b 3
            rw [up2_eq, if_pos rfl]
          · show mA (r_e5 D M b) 24 b = _
            unfold r_e5
            rw [r_set_24, hM, hTe]
            show _ = up2 _ b 4 _ b 4
            rw [up2_eq, if_pos rfl]
          · show mA (r_e5 D M b) 25 b = _
            unfold r_e5
            rw [r_set_A _ _ _ (by decide) (by decide), hM, mF1 5 (by decide) (by decide)]
            exact c4
          · show mA (r_e5 D M b) 26 b = _
            unfold r_e5
            rw [r_set_A _ _ _ (by decide) (by decide), hM, mF1 7 (by decide) (by decide)]
            exact c5
          · show mA (r_e5 D M b) 27 b = _
            unfold r_e5
            rw [r_set_A _ _ _ (by decide) (by decide), hM, mF1 6 (by decide) (by decide), r_e4_27]
            show _ = up2 (up2 (cM (m_aim D b (csz D b) (c_two D))) b 7 _) b 5 _ b 6
            rw [up2_k _ _ (by decide), up2_k _ _ (by decide), m_aim_M, up2_k _ _ (by decide), q5]
          · show mD (r_e5 D M b) b = _
            unfold r_e5
            rw [r_set_D, hD, hTe]
            exact (m_set_D _ _ _).symm
          · rw [hM, mF1 7 (by decide) (by decide)]
            exact c6
          · rw [hM, mF1 6 (by decide) (by decide)]
            show inR (up2 (up2 (cM (m_aim D b (csz D b) (c_two D))) b 7 _) b 5 _ b 6) 0 2
            rw [up2_k _ _ (by decide), up2_k _ _ (by decide), m_aim_M, up2_k _ _ (by decide), q5]
            exact ⟨0, by omega, by omega, rfl⟩
          · rw [zj] at hk
            have := hold k (by omega)
            rw [hN2, num] at this
            rw [hN, fE, fE, num]
            exact this
          · rw [zj] at hk
            rw [hN, fE, fE, hst1 _ 1 (by omega), hst1 _ 1 (by omega)]
            exact q4.1 k hk
          · rw [zj] at hk
            rw [hN, fE, hst1 _ 1 (by omega)]
            obtain ⟨d1, d2⟩ := q4.2 k hk
            refine ⟨d1, fun e x1 x2 x3 => ?_⟩
            rw [fE, hst1 _ 1 (by omega)] at x3
            rw [fE, hst1 _ 5 (by omega)]
            exact d2 e x1 x2 x3
        · have hb' : b < j := by omega
          refine bW_keep (M := M) (fun k => by rw [hM, cMb b k hbj]) (fun k => by rw [hN]) (by rw [hD, cDb b hbj]) hst1 (fun k hk x => hne _ x (hmemb b hb' k hk)) (fun k _ _ _ => r_e5_ne D M hbj k) (fun k hk => ?_) (r_e5_mD D M hbj) (r9 b hb')
          show mA (r_e5 D M j) 21 _ = _
          rw [r_e5_A D M j (by omega)]
      · by_cases hrow : ∃ k, k < csz D j ∧ e = cN D j k
        · obtain ⟨k, k1, k2⟩ := hrow
          refine Or.inr ⟨j, k, by omega, by rw [zj]; exact k1, by rw [hN]; exact k2⟩
        · have hno : ∀ k, k < csz D j → e ≠ cN D j k := fun k hk r => hrow ⟨k, hk, r⟩
          rw [fE, hne e 10 hno]
          rcases r10 e he with h | ⟨b, k, h1, h2, h3⟩
          · exact Or.inl h
          · refine Or.inr ⟨b, k, by omega, ?_, ?_⟩
            · rw [zb' b (by omega)]
              exact h2
            · rw [hN]
              exact h3
      · rw [fE, hst1 _ 1 (by omega)] at h3
        have hno : ∀ k, k < csz D j → e ≠ cN D j k := fun k hk r => by
          have := (q3 k hk).2.2
          omega
        rw [fE, hne e 10 hno]
        exact q6 e h1 h2 h3
