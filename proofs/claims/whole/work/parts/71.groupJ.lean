/-! group on both sides: where the beams lie is bounded -/
def tIn (t : Int64 × Int32 × Int32) : Prop := t.1 < 0 ∨ (inR t.2.1 (-300) 300 ∧ inR t.2.2 (-6) 6)
section
variable {C : cS} {M : mS} {ec b : Nat}
theorem try_in {C : cS} {j S : Nat} {bg st s : Int32} {i : Nat} {t : Int64 × Int32 × Int32} (h1 : inR (bg + st * nI i) (-300) 300) (h2 : inR s (-6) 6) (h : tIn t) : tIn (m_try C j S bg st s i t) := by
  unfold m_try
  split
  · exact h
  · split
    · exact Or.inr ⟨h1, h2⟩
    · split
      · exact h
      · exact Or.inr ⟨h1, h2⟩
theorem fi_in (he : eR C M ec) (hb : bN C M b ec) (ha : bA C M b) (hs : 2 ≤ csz C b) : tIn (m_fi C b (csz C b)) := by
  have hla : m_last C b ≤ 12 := by unfold m_last; split <;> omega
  have inner : ∀ k, k < 13 → ∀ t, tIn t → tIn (itr (m_try C b (csz C b) (m_bg C b (csz C b)) (m_step C b) (m_sOf k)) (m_steps C b + 1) 0 t) := fun k hk t ht => itr_inv (fun _ t => tIn t) _ (m_steps C b + 1) (fun i t hi h => try_in (g_in he hb ha hs (show i ≤ m_steps C b by omega)) (s13_in hk) h) _ 0 t (by omega) ht
  refine itr_inv (fun _ t => tIn t) _ (m_last C b + 1) (fun k t hk ht => ?_) _ 0 _ (by omega) (Or.inl (show (-1 : Int64) < 0 by decide))
  unfold m_fiF
  split
  · exact inner k (by omega) t ht
  · split
    · exact ht
    · exact inner k (by omega) t ht
end
theorem fin_bB {D : cS} {M : mS} {ec gc i j : Nat} {v : Int32} (h : qR D M ec gc v i j) (hB : bB D j) {j' : Nat} (h32 : j' ≤ 32) (h5 : cT (c_fin D j) 5 = nI j') : bB (c_fin D j) j' := by
  obtain ⟨⟨r1, r2, r3, r4, r5, r6, r7, r8, r9, r10⟩, hb0, q3, q4, q5, q6⟩ := h
  by_cases hs : csz D j < 2
  · have e1 : c_fin D j = D := by unfold c_fin; rw [if_pos hs]
    rw [e1] at h5 ⊢
    rw [r3, nI_eq (by omega) (by omega)] at h5
    subst h5
    exact hB
  · obtain ⟨-, -, c1, c2, c3, c4, c5, c6, c7, zF, -⟩ := e4_rel r6 hb0
    have hT : tIn (c_finT D j) := by
      have := fi_in c1 c2 c3 (by rw [zF]; omega)
      rw [zF] at this
      exact this
    have cMb : ∀ b k, b ≠ j → cM (c_fin2 D j) b k = cM D b k := by
      intro b k hb
      unfold c_fin2 m_set
      rw [cM_sM, up2_ne _ _ hb, cM_sM, up2_ne _ _ hb, cM_sD]
      show up2 (up2 (cM (m_aim D j (csz D j) (c_two D))) j 7 _) j 5 _ b k = _
      rw [up2_ne _ _ hb, up2_ne _ _ hb, m_aim_M, up2_ne _ _ hb]
    have hF : c_fin D j = if (c_finT D j).1 < 0 then sT (c_fin2 D j) 6 (cT (c_fin2 D j) 6 + 1) else sT (itr (m_hold (c_fin2 D j) j (cT (c_fin2 D j) 5)) (csz D j) 0 (c_fin2 D j)) 5 (cT (c_fin2 D j) 5 + 1) := by rw [c_fin, if_neg hs]
    by_cases p : (c_finT D j).1 < 0
    · rw [if_pos p] at hF
      rw [hF] at h5 ⊢
      have t5 : cT (sT (c_fin2 D j) 6 (cT (c_fin2 D j) 6 + 1)) 5 = nI j := by
        rw [cT_sT, c_fin2_T]
        exact r3
      rw [t5, nI_eq (by omega) (by omega)] at h5
      subst h5
      intro b hb
      rw [cM_sT, cMb b 3 (by omega), cMb b 4 (by omega)]
      exact hB b hb
    · rw [if_neg p] at hF
      rw [hF] at h5 ⊢
      have t5 : cT (sT (itr (m_hold (c_fin2 D j) j (cT (c_fin2 D j) 5)) (csz D j) 0 (c_fin2 D j)) 5 (cT (c_fin2 D j) 5 + 1)) 5 = nI (j + 1) := by
        rw [cT_sT, upd_at, c_fin2_T, r3, nI_1]
      rw [t5, nI_eq (by omega) (by omega)] at h5
      subst h5
      intro b hb
      rw [cM_sT, c_hold_M]
      by_cases e : b = j
      · subst e
        have e3 : cM (c_fin2 D b) b 3 = (c_finT D b).2.1 := by
          unfold c_fin2 m_set
          rw [cM_sM, up2_k _ _ (by decide), cM_sM, up2_eq, if_pos rfl]
        have e4 : cM (c_fin2 D b) b 4 = (c_finT D b).2.2 := by
          unfold c_fin2 m_set
          rw [cM_sM, up2_eq, if_pos rfl]
        rw [e3, e4]
        rcases hT with z | z
        · exact absurd z p
        · exact z
      · rw [cMb b 3 e, cMb b 4 e]
        exact hB b (by omega)
theorem next_bB {D : cS} {j : Nat} (h : bB D j) : bB (c_next D) j := fun b hb => by
  unfold c_next
  rw [cM_sM, up2_k _ _ (by decide), up2_k _ _ (by decide), cM_sM, up2_k _ _ (by decide), up2_k _ _ (by decide)]
  exact h b hb
theorem add_bB {D : cS} {j i b : Nat} (h : bB D b) : bB (c_add D j i) b := by
  unfold c_add
  split
  · intro a ha
    rw [cM_sM, up2_k _ _ (by decide), up2_k _ _ (by decide), cM_sN]
    exact h a ha
  · exact h
theorem k_bB {C D : cS} {M : mS} {ec gc c0 i j : Nat} {v rc la rs lg : Int32} (hk : kR C D M ec gc v c0 i j rc la rs lg) (hB : bB D j) (hi : i < ec) (hec : ec ≤ 64) (hcnt : c0 + cvN (cE C) v ec ≤ 64) : bB (c_gvK v gc i (D, j, rc)).1 (c_gvK v gc i (D, j, rc)).2.1 := by
  obtain ⟨k1, k2, k3, k4, k5, k6⟩ := hk
  have hT : bB (c_gvT v gc i (D, j, rc)).1 (c_gvT v gc i (D, j, rc)).2 := by
    have hc64 : c0 + cvN (cE C) v i ≤ 64 := Nat.le_trans (Nat.add_le_add_left (cvN_le (by omega)) c0) hcnt
    obtain ⟨f1, f2, f3, b, f4, f5, f6⟩ := fin_I k1 hc64
    obtain ⟨j', j1, j2, j3⟩ := fin_q k3 ⟨b, f4, f5⟩
    obtain ⟨n1, n2, n3⟩ := next_q j2 j3
    have hN : bB (c_next (c_fin D j)) (c_nextB (c_fin D j)) := by
      rw [n1]
      exact next_bB (fin_bB k3 hB j2.2.2.2.2.1 j1)
    simp only [c_gvT]
    split
    · exact hN
    · split
      · exact hN
      · exact hB
  simp only [c_gvK]
  split
  · split
    · exact hB
    · dsimp only
      split
      · exact hT
      · exact add_bB hT
  · exact hB
theorem kB_end {C : cS} {M : mS} {ec gc b0 c0 : Nat} {v : Int32} (h : rR C M ec b0 gc) (hB : bB C b0) (h10 : ∀ e, e < ec → cE C e 1 = v → cE C e 10 = -1001) (hb : 2 * b0 ≤ c0) (hec : ec ≤ 64) (hcnt : c0 + cvN (cE C) v ec ≤ 64) : bB (r_gvZ v gc ec C M).1.1 (r_gvZ v gc ec C M).1.2.1 := by
  have h0 : bB (c_next C) (c_nextB C) := by
    rw [(next_q (i := 0) (v := v) h (fun e _ => h10 e)).1]
    exact next_bB hB
  refine (itr_inv (fun i z => (∃ la rs lg, kR C z.1.1 z.2 ec gc v c0 i z.1.2.1 z.1.2.2 la rs lg) ∧ bB z.1.1 z.1.2.1) (r_gvS v gc) ec (fun i z hi hz => ?_) ec 0 ((c_next C, c_nextB C, 1), M) (by omega) ⟨⟨-1, 0, 0, kR_start h h10 hb⟩, h0⟩).2
  obtain ⟨⟨la, rs, lg, hk⟩, hz⟩ := hz
  exact ⟨⟨_, _, _, k_step hk hi hec hcnt⟩, k_bB hk hz hi hec hcnt⟩
theorem gv_bB {C : cS} {M : mS} {ec gc b0 c0 : Nat} {v : Int32} (h : rR C M ec b0 gc) (hB : bB C b0) (h10 : ∀ e, e < ec → cE C e 1 = v → cE C e 10 = -1001) (hb : 2 * b0 ≤ c0) (hec : ec ≤ 64) (hcnt : c0 + cvN (cE C) v ec ≤ 64) {b : Nat} (hb32 : b ≤ 32) (h5 : cT (c_gv C v gc ec) 5 = nI b) : bB (c_gv C v gc ec) b := by
  obtain ⟨la, rs, lg, k1, k2, k3, k4, k5, k6⟩ := kR_end (v := v) (c0 := c0) h h10 hb hec hcnt
  have e : c_gv C v gc ec = c_fin (r_gvZ v gc ec C M).1.1 (r_gvZ v gc ec C M).1.2.1 := by
    unfold c_gv
    rw [gvZ_1]
  rw [e] at h5 ⊢
  exact fin_bB k3 (kB_end h hB h10 hb hec hcnt) hb32 h5
theorem gvT_V (v : Int32) (gc i : Nat) (t : cS × Nat × Int32) : cV (c_gvT v gc i t).1 = cV t.1 := by
  have hN : cV (c_next (c_fin t.1 t.2.1)) = cV t.1 := by
    unfold c_next
    rw [cV_sM, cV_sM, c_fin_V]
  unfold c_gvT
  split
  · exact hN
  · split
    · exact hN
    · rfl
theorem add_V (D : cS) (j i : Nat) : cV (c_add D j i) = cV D := by
  unfold c_add
  split
  · rw [cV_sM, cV_sN]
  · rfl
theorem gvK_V (v : Int32) (gc i : Nat) (t : cS × Nat × Int32) : cV (c_gvK v gc i t).1 = cV t.1 := by
  unfold c_gvK
  split
  · split
    · rfl
    · dsimp only
      split
      · exact gvT_V v gc i t
      · rw [add_V]
        exact gvT_V v gc i t
  · rfl
theorem gv_V (C : cS) (v : Int32) (gc ec : Nat) : cV (c_gv C v gc ec) = cV C := by
  unfold c_gv
  rw [c_fin_V]
  have := itr_inv (fun _ (t : cS × Nat × Int32) => cV t.1 = cV C) (c_gvK v gc) ec (fun i t _ h => by rw [gvK_V]; exact h) ec 0 (c_next C, c_nextB C, 1) (by omega) (by unfold c_next; rw [cV_sM, cV_sM])
  exact this
theorem group_V (C : cS) (bc gc ec : Nat) : cV (c_group C bc gc ec) = cV C := by
  unfold c_group
  rw [gv_V, gv_V]
  unfold c_g1
  rw [cV_sT, c_take_V]
theorem j_group {w : zW} {o q : Nat} {C : cS} {M : mS} {ec bc gc : Nat} (h : RR C M ec bc gc) : jI w o q mX3_group mX4_group [] C M := by
  have hec : ec ≤ 64 := h.1.2.2.2.2.2.1.1
  obtain ⟨b1, b2, h1, h2, h3, h4, h5, h6, h7⟩ := group_rel h.1
  have hsum := cvN_sum (cE (c_g1 C bc)) ec
  have B1 := gv_bB (v := 0) (c0 := 0) h1 (bB_0 _) (fun e he _ => h4 e he) (by omega) hec (by omega) h2.2.2.2.2.1 h2.2.2.1
  have B2 := gv_bB (v := 1) (c0 := cvN (cE (c_g1 C bc)) 0 ec) h2 B1 h5 (by omega) hec h7 h3.2.2.2.2.1 h3.2.2.1
  refine ⟨cT (c_group C bc gc ec) 5, c_group C bc gc ec, r_group C M ec bc gc, ec, b2, gc, fun f n => ctS_group hec h.1.2.2.2.2.1 h.1.2.2.2.2.2.2.1.1 h.1.2.2.2.2.2.2.1.2.1 h.1.2.1 h.1.2.2.1 h.1.2.2.2.2.2.2.1.2.2.1 h.1.1, fun f n => ctR_group h.1, h3, ?_, B2⟩
  unfold vB
  rw [group_V]
  exact h.2.1
