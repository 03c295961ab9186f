/-! one voice, event by event, on both sides -/
theorem fin_out {D : cS} {j : Nat} (a x : Nat) (h : ∀ k, k < csz D j → a ≠ cN D j k) : cE (c_fin D j) a x = cE D a x := by
  have h2 : cE (c_fin2 D j) a x = cE D a x := by
    have : cE (c_fin2 D j) = cE (m_aim D j (csz D j) (c_two D)) := by
      unfold c_fin2 m_set c_fin1 m_judge
      rw [cE_sM, cE_sM, cE_sD, cE_sM, cE_sM]
    rw [this]
    unfold m_aim
    rw [aimK_ne D j _ a x _ _ _ (fun k hk => h k (by omega)), cE_sM]
  unfold c_fin
  split
  · rfl
  · split
    · rw [cE_sT, h2]
    · rw [cE_sT, holdK_ne _ _ _ _ _ _ _ _ (fun k hk => by rw [c_fin2_N]; exact h k (by omega)), h2]
def r_gvE (gc i : Nat) (t : cS × Nat × Int32) (M : mS) : mS := if t.2.2 = 0 then r_ends t.1 M t.2.1 else if c_goes t.1 gc t.2.1 (csz t.1 t.2.1) i = 0 then r_ends t.1 M t.2.1 else M
def r_gvM (v : Int32) (gc i : Nat) (t : cS × Nat × Int32) (M : mS) : mS := if cE t.1 i 1 = v then (if cE t.1 i 5 = 0 then M else (if cE (c_gvT v gc i t).1 i 2 < 3 then r_gvE gc i t M else tA (r_gvE gc i t M) 21 (16 * (c_gvT v gc i t).2 + csz (c_gvT v gc i t).1 (c_gvT v gc i t).2) (nI i))) else M
def r_gvS (v : Int32) (gc i : Nat) (z : (cS × Nat × Int32) × mS) : (cS × Nat × Int32) × mS := (c_gvK v gc i z.1, r_gvM v gc i z.1 z.2)
def lastOK (D : cS) (v : Int32) (i j : Nat) (la : Int32) : Prop := (csz D j = 0 ∧ la = -1) ∨ ∃ l, la = nI l ∧ l < i ∧ (¬ cE D l 5 = 0) ∧ cE D l 1 = v ∧ (∀ e, l < e → e < i → cE D e 1 = v → cE D e 5 = 0) ∧ ((cE D l 2 < 3 ∧ csz D j = 0) ∨ ((¬ cE D l 2 < 3) ∧ 0 < csz D j ∧ cN D j (csz D j - 1) = l))
def rcOK (D : cS) (rs lg rc : Int32) : Prop := (rs = 0 ∧ lg = 0 ∧ rc = 1) ∨ (rs = 1 ∧ (lg = 0 ∨ lg = 1) ∧ rc = if cT D 7 = 0 then 0 else if lg = 0 then 1 else 0)
def kR (C D : cS) (M : mS) (ec gc : Nat) (v : Int32) (c0 i j : Nat) (rc la rs lg : Int32) : Prop := gI D j ec gc (c0 + cvN (cE C) v i) ∧ (∀ a k, (k < 10 ∨ 15 < k) → cE D a k = cE C a k) ∧ qR D M ec gc v i j ∧ lastOK D v i j la ∧ rcOK D rs lg rc ∧ ∀ e, (¬ cE C e 1 = v) → cE D e 10 = cE C e 10
def k_la (D : cS) (v : Int32) (i : Nat) (la : Int32) : Int32 := if cE D i 1 = v then (if cE D i 5 = 0 then la else nI i) else la
def k_rs (D : cS) (v : Int32) (i : Nat) (rs : Int32) : Int32 := if cE D i 1 = v then (if cE D i 5 = 0 then 1 else 0) else rs
def k_lg (D : cS) (v : Int32) (i : Nat) (lg : Int32) : Int32 := if cE D i 1 = v then (if cE D i 5 = 0 then (if lg = 0 then (if cE D i 2 < 3 then 1 else 0) else 1) else 0) else lg
theorem last_no {D : cS} {v : Int32} {i j : Nat} {la : Int32} (h : lastOK D v i j la) (hi : cE D i 1 = v → cE D i 5 = 0) : lastOK D v (i + 1) j la := by
  rcases h with h | ⟨l, h1, h2, h3, h4, h5, h6⟩
  · exact Or.inl h
  · refine Or.inr ⟨l, h1, by omega, h3, h4, fun e x1 x2 x3 => ?_, h6⟩
    by_cases e' : e = i
    · subst e'
      exact hi x3
    · exact h5 e x1 (by omega) x3
theorem cvN_le {E : Nat → Nat → Int32} {v : Int32} {a b : Nat} (h : a ≤ b) : cvN E v a ≤ cvN E v b := by
  induction h with
  | refl => exact Nat.le_refl _
  | step _ ih => exact Nat.le_trans ih (Nat.le_add_right _ _)
/-- the row that a note finds: D's own if it goes on, else a new one -/
theorem choose_q {C D : cS} {M : mS} {ec gc c0 i j : Nat} {v rc la rs lg : Int32} (hk : kR C D M ec gc v c0 i j rc la rs lg) (hi : i < ec) (hec : ec ≤ 64) (hcnt : c0 + cvN (cE C) v ec ≤ 64) : ((rc = 0 ∨ c_goes D gc j (csz D j) i = 0) → (c_gvT v gc i (D, j, rc)).1 = c_next (c_fin D j) ∧ r_gvE gc i (D, j, rc) M = r_ends D M j ∧ csz (c_gvT v gc i (D, j, rc)).1 (c_gvT v gc i (D, j, rc)).2 = 0) ∧ ((¬ (rc = 0 ∨ c_goes D gc j (csz D j) i = 0)) → c_gvT v gc i (D, j, rc) = (D, j) ∧ r_gvE gc i (D, j, rc) M = M ∧ csz D j < 16 ∧ 0 < csz D j ∧ ¬ cE D i 2 < 3) ∧ qR (c_gvT v gc i (D, j, rc)).1 (r_gvE gc i (D, j, rc) M) ec gc v i (c_gvT v gc i (D, j, rc)).2 ∧ (∀ a k, (k < 10 ∨ 15 < k) → cE (c_gvT v gc i (D, j, rc)).1 a k = cE D a k) ∧ (∀ e, (¬ cE D e 1 = v) → cE (c_gvT v gc i (D, j, rc)).1 e 10 = cE D e 10) ∧ cT (c_gvT v gc i (D, j, rc)).1 7 = cT D 7 := by
  obtain ⟨k1, k2, k3, k4, k5, k6⟩ := hk
  by_cases hg : rc = 0 ∨ c_goes D gc j (csz D j) i = 0
  · have hT : c_gvT v gc i (D, j, rc) = (c_next (c_fin D j), c_nextB (c_fin D j)) := by
      simp only [c_gvT]
      rcases hg with h | h
      · rw [if_pos h]
      · by_cases h' : rc = 0
        · rw [if_pos h']
        · rw [if_neg h', if_pos h]
    have hE : r_gvE gc i (D, j, rc) M = r_ends D M j := by
      simp only [r_gvE]
      rcases hg with h | h
      · rw [if_pos h]
      · by_cases h' : rc = 0
        · rw [if_pos h']
        · rw [if_neg h', if_pos h]
    have hc64 : c0 + cvN (cE C) v i ≤ 64 := Nat.le_trans (Nat.add_le_add_left (cvN_le (by omega)) c0) hcnt
    obtain ⟨f1, f2, f3, b, f4, f5, f6⟩ := fin_I k1 hc64
    obtain ⟨j', j1, j2, j3⟩ := fin_q k3 ⟨b, f4, f5⟩
    obtain ⟨n1, n2, n3⟩ := next_q j2 j3
    rw [hT, hE, n1]
    refine ⟨fun _ => ⟨rfl, rfl, n2⟩, fun h => absurd hg h, n3, fun a k hk => ?_, fun e he => ?_, ?_⟩
    · rw [c_next_E, c_fin_E _ _ _ hk]
    · rw [c_next_E, fin_out e 10 (fun k hk r => he (by rw [r]; exact (k3.2.2.1 k hk).2.1))]
    · show cT (c_fin D j) 7 = _
      exact c_fin_T D j (by decide) (by decide)
  · have h1 : ¬ rc = 0 := fun h => hg (Or.inl h)
    have h2 : ¬ c_goes D gc j (csz D j) i = 0 := fun h => hg (Or.inr h)
    have hT : c_gvT v gc i (D, j, rc) = (D, j) := by
      simp only [c_gvT]
      rw [if_neg h1, if_neg h2]
    have hE : r_gvE gc i (D, j, rc) M = M := by
      simp only [r_gvE]
      rw [if_neg h1, if_neg h2]
    rw [hT, hE]
    refine ⟨fun h => absurd h hg, fun _ => ⟨rfl, rfl, ?_⟩, k3, fun a k _ => rfl, fun e _ => rfl, rfl⟩
    unfold c_goes at h2
    by_cases g1 : cE D i 2 < 3
    · rw [if_pos g1] at h2
      exact absurd rfl h2
    · rw [if_neg g1] at h2
      by_cases g2 : cE D i 9 = 1
      · rw [if_pos g2] at h2
        exact absurd rfl h2
      · rw [if_neg g2] at h2
        by_cases g3 : csz D j = 0
        · rw [if_pos g3] at h2
          exact absurd rfl h2
        · rw [if_neg g3] at h2
          by_cases g4 : 16 ≤ csz D j
          · rw [if_pos g4] at h2
            exact absurd rfl h2
          · exact ⟨by omega, by omega, g1⟩
theorem k_step {C D : cS} {M : mS} {ec gc c0 i j : Nat} {v rc la rs lg : Int32} (hk : kR C D M ec gc v c0 i j rc la rs lg) (hi : i < ec) (hec : ec ≤ 64) (hcnt : c0 + cvN (cE C) v ec ≤ 64) : kR C (c_gvK v gc i (D, j, rc)).1 (r_gvM v gc i (D, j, rc) M) ec gc v c0 (i + 1) (c_gvK v gc i (D, j, rc)).2.1 (c_gvK v gc i (D, j, rc)).2.2 (k_la D v i la) (k_rs D v i rs) (k_lg D v i lg) := by
  have hk' := hk
  obtain ⟨k1, k2, k3, k4, k5, k6⟩ := hk
  have hc64 : c0 + cvN (cE C) v i ≤ 64 := Nat.le_trans (Nat.add_le_add_left (cvN_le (by omega)) c0) hcnt
  obtain ⟨g1, g2⟩ := gvK_I (v := v) (i := i) (t := (D, j, rc)) (by omega) hc64 k1
  have g1' : gI (c_gvK v gc i (D, j, rc)).1 (c_gvK v gc i (D, j, rc)).2.1 ec gc (c0 + cvN (cE C) v (i + 1)) := by
    rw [show (D, j, rc).1 = D from rfl, k2 i 1 (by omega), Nat.add_assoc] at g1
    exact g1
  refine ⟨g1', fun a k hk => by rw [g2 a k hk]; exact k2 a k hk, ?_⟩
  by_cases hv : cE D i 1 = v
  · by_cases hn : cE D i 5 = 0
    · have hK : c_gvK v gc i (D, j, rc) = (D, j, if rc = 0 then 0 else if cT D 7 = 0 then 0 else if cE D i 2 < 3 then 0 else 1) := by
        simp only [c_gvK]
        rw [if_pos hv, if_pos hn]
      have hM : r_gvM v gc i (D, j, rc) M = M := by
        simp only [r_gvM]
        rw [if_pos hv, if_pos hn]
      rw [hK, hM]
      dsimp only
      unfold k_la k_rs k_lg
      rw [if_pos hv, if_pos hn, if_pos hv, if_pos hn, if_pos hv, if_pos hn]
      refine ⟨q_mono k3, last_no k4 (fun _ => hn), Or.inr ⟨rfl, ?_, ?_⟩, k6⟩
      · by_cases hl : lg = 0
        · rw [if_pos hl]
          by_cases hs : cE D i 2 < 3
          · rw [if_pos hs]
            exact Or.inr rfl
          · rw [if_neg hs]
            exact Or.inl rfl
        · rw [if_neg hl]
          exact Or.inr rfl
      · rcases k5 with ⟨a1, a2, a3⟩ | ⟨a1, a2, a3⟩
        · rw [a2, a3, if_neg (by decide), if_pos rfl]
          by_cases ho : cT D 7 = 0
          · rw [if_pos ho, if_pos ho]
          · rw [if_neg ho, if_neg ho]
            by_cases hs : cE D i 2 < 3
            · rw [if_pos hs, if_pos hs, if_neg (by decide)]
            · rw [if_neg hs, if_neg hs, if_pos rfl]
        · rw [a3]
          by_cases ho : cT D 7 = 0
          · rw [if_pos ho, if_pos rfl, if_pos ho]
          · rw [if_neg ho, if_neg ho]
            rcases a2 with a2 | a2
            · rw [a2, if_pos rfl, if_neg (by decide), if_neg ho, if_pos rfl]
              by_cases hs : cE D i 2 < 3
              · rw [if_pos hs, if_pos hs, if_neg (by decide)]
              · rw [if_neg hs, if_neg hs, if_pos rfl]
            · simp [a2, ho]
    · obtain ⟨c1, c2, c3, c4, c5, c6⟩ := choose_q hk' hi hec hcnt
      have hK : c_gvK v gc i (D, j, rc) = ((if cE (c_gvT v gc i (D, j, rc)).1 i 2 < 3 then (c_gvT v gc i (D, j, rc)).1 else c_add (c_gvT v gc i (D, j, rc)).1 (c_gvT v gc i (D, j, rc)).2 i), (c_gvT v gc i (D, j, rc)).2, 1) := by
        simp only [c_gvK]
        rw [if_pos hv, if_neg hn]
      have hM : r_gvM v gc i (D, j, rc) M = (if cE (c_gvT v gc i (D, j, rc)).1 i 2 < 3 then r_gvE gc i (D, j, rc) M else tA (r_gvE gc i (D, j, rc) M) 21 (16 * (c_gvT v gc i (D, j, rc)).2 + csz (c_gvT v gc i (D, j, rc)).1 (c_gvT v gc i (D, j, rc)).2) (nI i)) := by
        simp only [r_gvM]
        rw [if_pos hv, if_neg hn]
      rw [hK, hM]
      dsimp only
      unfold k_la k_rs k_lg
      rw [if_pos hv, if_neg hn, if_pos hv, if_neg hn, if_pos hv, if_neg hn]
      have e1 : cE (c_gvT v gc i (D, j, rc)).1 i 1 = v := by rw [c4 i 1 (by omega)]; exact hv
      have e5 : ¬ cE (c_gvT v gc i (D, j, rc)).1 i 5 = 0 := by rw [c4 i 5 (by omega)]; exact hn
      have hsz : csz (c_gvT v gc i (D, j, rc)).1 (c_gvT v gc i (D, j, rc)).2 < 16 ∧ (0 < csz (c_gvT v gc i (D, j, rc)).1 (c_gvT v gc i (D, j, rc)).2 → ∀ e, cN (c_gvT v gc i (D, j, rc)).1 (c_gvT v gc i (D, j, rc)).2 (csz (c_gvT v gc i (D, j, rc)).1 (c_gvT v gc i (D, j, rc)).2 - 1) < e → e < i → cE (c_gvT v gc i (D, j, rc)).1 e 1 = v → cE (c_gvT v gc i (D, j, rc)).1 e 5 = 0) := by
        by_cases hg : rc = 0 ∨ c_goes D gc j (csz D j) i = 0
        · have := (c1 hg).2.2
          exact ⟨by omega, fun h => by omega⟩
        · obtain ⟨d1, -, d2, d3, d4⟩ := c2 hg
          rw [d1]
          refine ⟨d2, fun _ => ?_⟩
          rcases k4 with ⟨h, -⟩ | ⟨l, l1, l2, l3, l4, l5, l6⟩
          · omega
          · rcases l6 with ⟨-, h⟩ | ⟨-, -, h⟩
            · omega
            · rw [h]
              exact l5
      by_cases hs : cE (c_gvT v gc i (D, j, rc)).1 i 2 < 3
      · rw [if_pos hs, if_pos hs]
        refine ⟨q_mono c3, Or.inr ⟨i, rfl, by omega, e5, e1, fun e x1 x2 => by omega, Or.inl ⟨hs, ?_⟩⟩, Or.inl ⟨rfl, rfl, rfl⟩, fun e he => ?_⟩
        · by_cases hg : rc = 0 ∨ c_goes D gc j (csz D j) i = 0
          · exact (c1 hg).2.2
          · obtain ⟨d1, -, d2, d3, d4⟩ := c2 hg
            rw [d1] at hs
            exact absurd hs d4
        · rw [c5 e (by rw [k2 e 1 (by omega)]; exact he)]
          exact k6 e he
      · rw [if_neg hs, if_neg hs]
        obtain ⟨a1, a2, a3, a4⟩ := add_q c3 hi e1 e5 hs hsz.1 hsz.2
        refine ⟨a4, Or.inr ⟨i, rfl, by omega, ?_, ?_, fun e x1 x2 => by omega, Or.inr ⟨?_, by rw [a2]; omega, ?_⟩⟩, Or.inl ⟨rfl, rfl, rfl⟩, fun e he => ?_⟩
        · rw [c_add_E]
          exact e5
        · rw [c_add_E]
          exact e1
        · rw [c_add_E]
          exact hs
        · rw [a2]
          exact a3
        · rw [c_add_E, c5 e (by rw [k2 e 1 (by omega)]; exact he)]
          exact k6 e he
  · have hK : c_gvK v gc i (D, j, rc) = (D, j, rc) := by
      simp only [c_gvK]
      rw [if_neg hv]
    have hM : r_gvM v gc i (D, j, rc) M = M := by
      simp only [r_gvM]
      rw [if_neg hv]
    rw [hK, hM]
    dsimp only
    unfold k_la k_rs k_lg
    rw [if_neg hv, if_neg hv, if_neg hv]
    exact ⟨q_mono k3, last_no k4 (fun h => absurd h hv), k5, k6⟩
