/-! finding with and without leaving out slants -/
def tEq (t u : Int64 × Int32 × Int32) : Prop := t.1 = u.1 ∧ (¬ t.1 < 0 → t = u)
theorem try_tEq (C : cS) (j S : Nat) (bg st s : Int32) (i : Nat) {t u : Int64 × Int32 × Int32} (h : tEq t u) : tEq (m_try C j S bg st s i t) (m_try C j S bg st s i u) := by
  obtain ⟨h1, h2⟩ := h
  unfold m_try
  by_cases p : m_bad C j S (bg + st * nI i) s < 0
  · rw [if_pos p, if_pos p]
    exact ⟨h1, h2⟩
  · rw [if_neg p, if_neg p, ← h1]
    by_cases r : t.1 < 0
    · rw [if_pos r, if_pos r]
      exact ⟨rfl, fun _ => rfl⟩
    · rw [if_neg r, if_neg r, ← h2 r]
      exact ⟨rfl, fun _ => rfl⟩
theorem itr_rel {α β : Type} (P : α → β → Prop) (F : Nat → α → α) (G : Nat → β → β) (N : Nat) (h : ∀ k, k < N → ∀ t u, P t u → P (F k t) (G k u)) : ∀ (m i : Nat) (t : α) (u : β), i + m ≤ N → P t u → P (itr F m i t) (itr G m i u)
  | 0, _, _, _, _, hp => hp
  | m + 1, i, t, u, hi, hp => by
    rw [itr, itr]
    exact itr_rel P F G N h m (i + 1) _ _ (by omega) (h i (by omega) t u hp)
theorem itr_fixN {α : Type} (F : Nat → α → α) (a : α) (N : Nat) (h : ∀ k, k < N → F k a = a) : ∀ (m i : Nat), i + m ≤ N → itr F m i a = a
  | 0, _, _ => rfl
  | m + 1, i, hi => by rw [itr, h i (by omega), itr_fixN F a N h m (i + 1) (by omega)]
theorem l_add {a b : Int64} (h1 : -9223372036854775808 ≤ a.toInt + b.toInt) (h2 : a.toInt + b.toInt < 9223372036854775808) : (a + b).toInt = a.toInt + b.toInt := by
  rw [Int64.toInt_add]
  exact Int.bmod_eq_of_le (by omega) (by omega)
theorem sq_bd {d : Int32} (h : inR d (-1000) 1000) : 0 ≤ (d.toInt64 * d.toInt64).toInt ∧ (d.toInt64 * d.toInt64).toInt ≤ 1000000 := by
  obtain ⟨k, h1, h2, rfl⟩ := h
  have e : ((k.natAbs * k.natAbs : Nat) : Int) = k * k := Int.natAbs_mul_self
  have e2 : k.natAbs * k.natAbs ≤ 1000 * 1000 := Nat.mul_le_mul (by omega) (by omega)
  rw [Int64.toInt_mul, Int32.toInt_toInt64, zI_toInt (by omega) (by omega), Int.bmod_eq_of_le (by omega) (by omega)]
  omega
theorem bo_ge (C : cS) (j : Nat) (f s : Int32) (S : Nat) (hd : ∀ k, k < S → inR (e_len C (cN C j k) (m_ht C f s S k) - cE C (cN C j k) 14) (-1000) 1000) : ∀ (m i : Nat) (a x : Int64), i + m ≤ S → S ≤ 16 → 0 ≤ a.toInt → a.toInt ≤ 1000000 * ((i : Int) + 1) → m_bo C j f s S m i a = some x → a.toInt ≤ x.toInt ∧ x.toInt ≤ 1000000 * 17
  | 0, i, a, x, h1, h2, h3, h4, h5 => by
    rw [m_bo] at h5
    cases h5
    omega
  | m + 1, i, a, x, h1, h2, h3, h4, h5 => by
    rw [m_bo] at h5
    split at h5
    · obtain ⟨b1, b2⟩ := sq_bd (hd i (by omega))
      have e := l_add (a := a) (b := (e_len C (cN C j i) (m_ht C f s S i) - cE C (cN C j i) 14).toInt64 * (e_len C (cN C j i) (m_ht C f s S i) - cE C (cN C j i) 14).toInt64) (by omega) (by omega)
      obtain ⟨c1, c2⟩ := bo_ge C j f s S hd m (i + 1) _ x (by omega) h2 (by rw [e]; omega) (by rw [e]; omega) h5
      rw [e] at c1
      omega
    · cases h5
theorem sl25 : ∀ k : Fin 25, 0 ≤ (8 * (zI ((k.val : Int) - 12)).toInt64 * (zI ((k.val : Int) - 12)).toInt64).toInt ∧ (8 * (zI ((k.val : Int) - 12)).toInt64 * (zI ((k.val : Int) - 12)).toInt64).toInt ≤ 1000000 := by decide +kernel
theorem sl_bd {C : cS} {b : Nat} {s : Int32} (hs : inR s (-6) 6) (hI : inR (cM C b 5) (-6) 6) : 0 ≤ (m_sl C b s).toInt ∧ (m_sl C b s).toInt ≤ 1000000 := by
  obtain ⟨x, x1, x2, x3⟩ := hs
  obtain ⟨y, y1, y2, y3⟩ := hI
  unfold m_sl
  rw [x3, y3, zI_sub]
  have h := sl25 ⟨(x - y + 12).toNat, by omega⟩
  have e : (((x - y + 12).toNat : Nat) : Int) - 12 = x - y := by omega
  simp only [e] at h
  exact h
theorem wg_bd (C : cS) (b : Nat) (h : Int32) : 0 ≤ ((m_wg C b h).toInt64).toInt ∧ ((m_wg C b h).toInt64).toInt ≤ 25 := by
  rcases m_wg_or C b h with e | e <;> rw [e] <;> decide
theorem rd3 : ∀ (s : Fin 13) (k : Fin 16) (B : Fin 15), -100 ≤ (c_rd (zI ((s.val : Int) - 6) * nI k.val) (B.val + 1)).toInt ∧ (c_rd (zI ((s.val : Int) - 6) * nI k.val) (B.val + 1)).toInt ≤ 100 := by decide +kernel
theorem rd_in {s : Int32} (hs : inR s (-6) 6) {k B : Nat} (hk : k < 16) (h1 : 1 ≤ B) (h2 : B ≤ 15) : inR (c_rd (s * nI k) B) (-100) 100 := by
  obtain ⟨x, h3, h4, rfl⟩ := hs
  have h := rd3 ⟨(x + 6).toNat, by omega⟩ ⟨k, hk⟩ ⟨B - 1, by omega⟩
  have e : (((x + 6).toNat : Nat) : Int) - 6 = x := by omega
  simp only [e, show B - 1 + 1 = B by omega] at h
  exact inR_of h.1 h.2
theorem inR_add {x y : Int32} {a b c d : Int} (hx : inR x a b) (hy : inR y c d) : inR (x + y) (a + c) (b + d) := by
  obtain ⟨k, h1, h2, rfl⟩ := hx
  obtain ⟨l, h3, h4, rfl⟩ := hy
  exact ⟨k + l, by omega, by omega, zI_add k l⟩
theorem inR_sub {x y : Int32} {a b c d : Int} (hx : inR x a b) (hy : inR y c d) : inR (x - y) (a - d) (b - c) := by
  obtain ⟨k, h1, h2, rfl⟩ := hx
  obtain ⟨l, h3, h4, rfl⟩ := hy
  exact ⟨k - l, by omega, by omega, zI_sub k l⟩
theorem inR_pm {x d : Int32} {a : Int} (hx : inR x (-a) a) (hd : d = 1 ∨ d = -1) : inR (x * d) (-a) a := by
  obtain ⟨k, h1, h2, rfl⟩ := hx
  rcases hd with rfl | rfl
  · exact ⟨k * 1, by omega, by omega, zI_mul k 1⟩
  · exact ⟨k * -1, by omega, by omega, by rw [show (-1 : Int32) = zI (-1) from rfl, zI_mul]⟩
theorem want_in {C : cS} {e : Nat} (h : eO2 C e) (hn : ¬ cE C e 5 = 0) {d : Int32} (hd : d = 1 ∨ d = -1) (b : Int32) : inR (e_want C e d b) (-100) 100 := by
  have h1 : inR (14 + e_more C e) (-100) 100 := inR_w (inR_add (x := 14) ⟨14, Int.le_refl 14, Int.le_refl 14, rfl⟩ (more_in h.2.1)) (by omega) (by omega)
  have h2 : inR ((-48 * cE C e 8 - e_near C e d) * d) (-100) 100 := by
    refine inR_pm ?_ hd
    obtain ⟨s, s1, s2, s3⟩ := h.2.2.1
    have : inR (-48 * cE C e 8) (-48) 0 := ⟨-48 * s, by omega, by omega, by rw [s3, show (-48 : Int32) = zI (-48) from rfl, zI_mul]⟩
    exact inR_w (inR_sub this (near_in h hn d)) (by omega) (by omega)
  unfold e_want
  split
  · split
    · exact h1
    · exact h2
  · exact h1
section
variable {M : mS} {C : cS} {b ec : Nat}
theorem d_in (he : eR C M ec) (hb : bN C M b ec) (ha : bA C M b) (hs : 2 ≤ csz C b) {g s : Int32} (hg : inR g (-300) 300) (h6 : inR s (-6) 6) {k : Nat} (hk : k < csz C b) : inR (e_len C (cN C b k) (m_ht C g s (csz C b) k) - cE C (cN C b k) 14) (-1000) 1000 := by
  obtain ⟨g1, g2, g3, g4⟩ := hb.2.2.2 k hk
  have hA := ha.2.2 k hk
  have hd := c_dir_or C ha.2.1 (cN C b k)
  have hS := hb.2.1
  unfold e_len m_ht
  rw [hA.1, hA.2.2.1]
  have w1 := want_in (he.2.2 _ g2).2.1 g3 hd (if cM C b 2 = 0 then 1 else 0)
  have r1 := rd_in h6 (show k < 16 by omega) (show 1 ≤ csz C b - 1 by omega) (show csz C b - 1 ≤ 15 by omega)
  have l1 := inR_w (inR_sub (inR_add hg r1) (aim_near he hb ha hk)) (show -600 ≤ _ by omega) (show _ ≤ 600 by omega)
  exact inR_w (inR_sub (inR_pm l1 hd) w1) (by omega) (by omega)
theorem bad_ge (he : eR C M ec) (hb : bN C M b ec) (ha : bA C M b) (hs : 2 ≤ csz C b) (hI : inR (cM C b 5) (-6) 6) {g s : Int32} (hg : inR g (-300) 300) (h6 : inR s (-6) 6) : m_bad C b (csz C b) g s = -1 ∨ m_sl C b s ≤ m_bad C b (csz C b) g s := by
  rw [m_bad_bo]
  cases h : m_bo C b g s (csz C b) (csz C b) 0 (m_sl C b s) with
  | none => exact Or.inl rfl
  | some x =>
    refine Or.inr ?_
    have s1 := sl_bd h6 hI
    obtain ⟨c1, c2⟩ := bo_ge C b g s (csz C b) (fun k hk => d_in he hb ha hs hg h6 hk) (csz C b) 0 (m_sl C b s) x (by omega) hb.2.1 s1.1 (by omega) h
    have w1 := wg_bd C b g
    have w2 := wg_bd C b (g + s)
    have e1 := l_add (a := (m_wg C b g).toInt64) (b := (m_wg C b (g + s)).toInt64) (by omega) (by omega)
    have e2 := l_add (a := x) (b := (m_wg C b g).toInt64 + (m_wg C b (g + s)).toInt64) (by omega) (by omega)
    show m_sl C b s ≤ x + ((m_wg C b g).toInt64 + (m_wg C b (g + s)).toInt64)
    rw [Int64.le_iff_toInt_le, e2, e1]
    omega
theorem lhs_in (he : eR C M ec) (hb : bN C M b ec) (ha : bA C M b) (hw : cM C b 2 = 1 ∨ cM C b 2 = -1) : ∀ (m k : Nat) (x : Int32), k + m ≤ csz C b → inR x (-100) 100 → inR (itr (m_lhF C b) m k x) (-100) 100
  | 0, _, _, _, hx => hx
  | m + 1, k, x, hk, hx => by
    rw [itr]
    have hy := lh_in he hb ha (show k < csz C b by omega) hw
    exact lhs_in he hb ha hw m (k + 1) _ (by omega) (inR_if (inR_if hy hx _) (inR_if hy hx _) _)
theorem g_in (he : eR C M ec) (hb : bN C M b ec) (ha : bA C M b) (hs : 2 ≤ csz C b) {d : Nat} (hd : d ≤ m_steps C b) : inR (m_bg C b (csz C b) + m_step C b * nI d) (-300) 300 := by
  rcases ha.2.1 with h | h
  · rw [m_steps, if_pos h] at hd
    rw [m_bg, if_pos h, m_step, if_pos h]
    exact ⟨-48 + 1 * d, by omega, by omega, by rw [show (-48 : Int32) = zI (-48) from rfl, show (1 : Int32) = zI 1 from rfl, nI_zI, zI_mul, zI_add]⟩
  · have h0 : ¬ cM C b 2 = 0 := by
      rcases h with h | h <;> rw [h] <;> decide
    rw [m_steps, if_neg h0] at hd
    obtain ⟨x, x1, x2, x3⟩ := lhs_in he hb ha h (csz C b - 1) 1 (m_lh0 C b 0) (by omega) (lh_in he hb ha (by omega) h)
    rw [m_bg, if_neg h0, m_step, if_neg h0, x3]
    rcases h with h | h
    · rw [h]
      exact ⟨x - 24 * 1 + 1 * d, by omega, by omega, by rw [show (1 : Int32) = zI 1 from rfl, show (24 : Int32) = zI 24 from rfl, nI_zI, zI_mul, zI_mul, zI_sub, zI_add]⟩
    · rw [h]
      exact ⟨x - 24 * -1 + -1 * d, by omega, by omega, by rw [show (-1 : Int32) = zI (-1) from rfl, show (24 : Int32) = zI 24 from rfl, nI_zI, zI_mul, zI_mul, zI_sub, zI_add]⟩
theorem fi_tEq (he : eR C M ec) (hb : bN C M b ec) (ha : bA C M b) (hs : 2 ≤ csz C b) (hI : inR (cM C b 5) (-6) 6) (x y : Int32) : tEq (r_fi C b (csz C b) x y) (m_fi C b (csz C b)) := by
  have hla : m_last C b ≤ 12 := by unfold m_last; split <;> omega
  refine itr_rel tEq _ _ 13 (fun k hk t u htu => ?_) _ _ _ _ (by omega) ⟨rfl, fun h => absurd (show (-1 : Int64) < 0 by decide) h⟩
  have inner : ∀ t u, tEq t u → tEq (r_fiF C b (csz C b) k t) (itr (m_try C b (csz C b) (m_bg C b (csz C b)) (m_step C b) (m_sOf k)) (m_steps C b + 1) 0 u) := fun t u h => itr_rel tEq _ _ (m_steps C b + 1) (fun i _ t u h => try_tEq C b _ _ _ _ i h) _ _ _ _ (by omega) h
  unfold m_fiF
  by_cases p : u.1 < 0
  · rw [if_pos p]
    exact inner t u htu
  · rw [if_neg p]
    by_cases r : u.1 ≤ m_sl C b (m_sOf k)
    · rw [if_pos r]
      have e : t = u := htu.2 (by rw [htu.1]; exact p)
      subst e
      have : r_fiF C b (csz C b) k t = t := by
        refine itr_fixN _ t (m_steps C b + 1) (fun d hd => ?_) _ _ (by omega)
        unfold m_try
        rcases bad_ge he hb ha hs hI (g_in he hb ha hs (show d ≤ m_steps C b by omega)) (s13_in hk) with h | h
        · rw [if_pos (by rw [h]; decide)]
        · by_cases v : m_bad C b (csz C b) (m_bg C b (csz C b) + m_step C b * nI d) (m_sOf k) < 0
          · rw [if_pos v]
          · rw [if_neg v, if_neg p, if_pos (Int64.le_trans r h)]
      rw [this]
      exact ⟨rfl, fun _ => rfl⟩
    · rw [if_neg r]
      exact inner t u htu
end
