/-! the notes beside a rest -/
theorem nd_some {C : cS} {v : Int32} : ∀ (m k a : Nat), k ≤ m → c_nd C v m k = some a → a < k ∧ cE C a 1 = v ∧ (¬ cE C a 5 = 0) ∧ ∀ e, a < e → e < k → cE C e 1 = v → cE C e 5 = 0
  | 0, k, a, hk, h => by simp [c_nd] at h
  | m + 1, k, a, hk, h => by
    rw [c_nd] at h
    by_cases k0 : k = 0
    · rw [if_pos k0] at h
      cases h
    · rw [if_neg k0] at h
      have step : c_nd C v m (k - 1) = some a → (cE C (k - 1) 1 = v → cE C (k - 1) 5 = 0) → a < k ∧ cE C a 1 = v ∧ (¬ cE C a 5 = 0) ∧ ∀ e, a < e → e < k → cE C e 1 = v → cE C e 5 = 0 := by
        intro h' hq
        obtain ⟨h1, h2, h3, h4⟩ := nd_some m (k - 1) a (by omega) h'
        refine ⟨by omega, h2, h3, fun e e1 e2 e3 => ?_⟩
        by_cases ek : e = k - 1
        · rw [ek] at e3 ⊢
          exact hq e3
        · exact h4 e e1 (by omega) e3
      by_cases hv : cE C (k - 1) 1 = v
      · rw [if_pos hv] at h
        by_cases h5 : cE C (k - 1) 5 = 0
        · rw [if_pos h5] at h
          exact step h (fun _ => h5)
        · rw [if_neg h5] at h
          cases h
          exact ⟨by omega, hv, h5, fun e e1 e2 => by omega⟩
      · rw [if_neg hv] at h
        exact step h (fun z => absurd z hv)
theorem nd_none {C : cS} {v : Int32} : ∀ (m k : Nat), k ≤ m → c_nd C v m k = none → ∀ e, e < k → cE C e 1 = v → cE C e 5 = 0
  | 0, k, hk, h, e, he, _ => by omega
  | m + 1, k, hk, h, e, he, hv' => by
    rw [c_nd] at h
    rw [if_neg (by omega)] at h
    have step : c_nd C v m (k - 1) = none → (cE C (k - 1) 1 = v → cE C (k - 1) 5 = 0) → cE C e 5 = 0 := by
      intro h' hq
      by_cases ek : e = k - 1
      · rw [ek] at hv' ⊢
        exact hq hv'
      · exact nd_none m (k - 1) (by omega) h' e (by omega) hv'
    by_cases hv : cE C (k - 1) 1 = v
    · rw [if_pos hv] at h
      by_cases h5 : cE C (k - 1) 5 = 0
      · rw [if_pos h5] at h
        exact step h (fun _ => h5)
      · rw [if_neg h5] at h
        cases h
    · rw [if_neg hv] at h
      exact step h (fun z => absurd z hv)
theorem nu_some {C : cS} {ec : Nat} {v : Int32} : ∀ (m k a : Nat), ec ≤ k + m → c_nu C ec v m k = some a → k ≤ a ∧ a < ec ∧ cE C a 1 = v ∧ (¬ cE C a 5 = 0) ∧ ∀ e, k ≤ e → e < a → cE C e 1 = v → cE C e 5 = 0
  | 0, k, a, hk, h => by simp [c_nu] at h
  | m + 1, k, a, hk, h => by
    rw [c_nu] at h
    by_cases k0 : ec ≤ k
    · rw [if_pos k0] at h
      cases h
    · rw [if_neg k0] at h
      have step : c_nu C ec v m (k + 1) = some a → (cE C k 1 = v → cE C k 5 = 0) → k ≤ a ∧ a < ec ∧ cE C a 1 = v ∧ (¬ cE C a 5 = 0) ∧ ∀ e, k ≤ e → e < a → cE C e 1 = v → cE C e 5 = 0 := by
        intro h' hq
        obtain ⟨h1, h2, h3, h4, h5⟩ := nu_some m (k + 1) a (by omega) h'
        refine ⟨by omega, h2, h3, h4, fun e e1 e2 e3 => ?_⟩
        by_cases ek : e = k
        · rw [ek] at e3 ⊢
          exact hq e3
        · exact h5 e (by omega) e2 e3
      by_cases hv : cE C k 1 = v
      · rw [if_pos hv] at h
        by_cases h5 : cE C k 5 = 0
        · rw [if_pos h5] at h
          exact step h (fun _ => h5)
        · rw [if_neg h5] at h
          cases h
          exact ⟨by omega, by omega, hv, h5, fun e e1 e2 => by omega⟩
      · rw [if_neg hv] at h
        exact step h (fun z => absurd z hv)
theorem nu_none {C : cS} {ec : Nat} {v : Int32} : ∀ (m k : Nat), ec ≤ k + m → c_nu C ec v m k = none → ∀ e, k ≤ e → e < ec → cE C e 1 = v → cE C e 5 = 0
  | 0, k, hk, h, e, he, h2, _ => by omega
  | m + 1, k, hk, h, e, he, h2, hv' => by
    rw [c_nu] at h
    rw [if_neg (by omega)] at h
    have step : c_nu C ec v m (k + 1) = none → (cE C k 1 = v → cE C k 5 = 0) → cE C e 5 = 0 := by
      intro h' hq
      by_cases ek : e = k
      · rw [ek] at hv' ⊢
        exact hq hv'
      · exact nu_none m (k + 1) (by omega) h' e (by omega) h2 hv'
    by_cases hv : cE C k 1 = v
    · rw [if_pos hv] at h
      by_cases h5 : cE C k 5 = 0
      · rw [if_pos h5] at h
        exact step h (fun _ => h5)
      · rw [if_neg h5] at h
        cases h
    · rw [if_neg hv] at h
      exact step h (fun z => absurd z hv)
/-- beam b goes over e behind its note k -/
def bOver (C : cS) (e b k : Nat) : Prop := k + 1 < csz C b ∧ cE C (cN C b 0) 1 = cE C e 1 ∧ cN C b k < e ∧ e < cN C b (k + 1)
section
variable {w : zW} {f : Nat → Option zO} {o q : Nat} {n : Nat × Nat} {C : cS} {M : mS} {ec bc gc : Nat}
theorem over_beside (h : rR C M ec bc gc) {e b k : Nat} (he : e < ec) (hb : b < bc) (ho : bOver C e b k) : c_nd C (cE C e 1) 64 e = some (cN C b k) ∧ c_nu C ec (cE C e 1) 64 (e + 1) = some (cN C b (k + 1)) := by
  obtain ⟨o1, o2, o3, o4⟩ := ho
  have hec := h.2.2.2.2.2.1.1
  obtain ⟨w1, w2, w3, w4, w5, w6⟩ := h.2.2.2.2.2.2.2.2.1 b hb
  obtain ⟨c1, c2⟩ := w6
  obtain ⟨-, a2, a3, -⟩ := w1.2.2.2 k (by omega)
  obtain ⟨-, z2, z3, -⟩ := w1.2.2.2 (k + 1) o1
  have av : cE C (cN C b k) 1 = cE C e 1 := by rw [c1 k (by omega), o2]
  have zv : cE C (cN C b (k + 1)) 1 = cE C e 1 := by rw [c1 (k + 1) o1, o2]
  have hbt := (c2 k o1).2
  rw [o2] at hbt
  constructor
  · cases hd : c_nd C (cE C e 1) 64 e with
    | none => exact absurd (nd_none 64 e (by omega) hd _ o3 av) a3
    | some a =>
      obtain ⟨d1, d2, d3, d4⟩ := nd_some 64 e a (by omega) hd
      rcases Nat.lt_trichotomy a (cN C b k) with x | x | x
      · exact absurd (d4 _ x o3 av) a3
      · rw [x]
      · exact absurd (hbt a x (by omega) d2) d3
  · cases hd : c_nu C ec (cE C e 1) 64 (e + 1) with
    | none => exact absurd (nu_none 64 (e + 1) (by omega) hd _ (by omega) z2 zv) z3
    | some a =>
      obtain ⟨d0, d1, d2, d3, d4⟩ := nu_some 64 (e + 1) a (by omega) hd
      rcases Nat.lt_trichotomy a (cN C b (k + 1)) with x | x | x
      · exact absurd (hbt a (by omega) x d2) d3
      · rw [x]
      · exact absurd (d4 _ (by omega) x zv) z3
theorem over_uniq (h : rR C M ec bc gc) {e b k b' k' : Nat} (he : e < ec) (hb : b < bc) (hb' : b' < bc) (ho : bOver C e b k) (ho' : bOver C e b' k') : b = b' ∧ k = k' := by
  have h1 := (over_beside h he hb ho).1
  have h2 := (over_beside h he hb' ho').1
  rw [h1] at h2
  have x := Option.some.inj h2
  have m1 := (h.2.2.2.2.2.2.2.2.1 b hb).2.2.2.2.1 k (by have := ho.1; omega)
  have m2 := (h.2.2.2.2.2.2.2.2.1 b' hb').2.2.2.2.1 k' (by have := ho'.1; omega)
  have s1 := (h.2.2.2.2.2.2.2.2.1 b hb).1.2.1
  have s2 := (h.2.2.2.2.2.2.2.2.1 b' hb').1.2.1
  have hbc := h.2.2.2.2.1
  have o1 := ho.1
  have o2 := ho'.1
  rw [x] at m1
  rw [m1.1, nI_eq (by omega) (by omega)] at m2
  rw [m1.2, nI_eq (by omega) (by omega)] at m2
  exact m2
theorem rest_over (h : rR C M ec bc gc) {e b k : Nat} (he : e < ec) (hb : b < bc) (ho : bOver C e b k) : c_rest C ec bc e = m_clr C b (csz C b) (c_rh C e) (nI k) := by
  obtain ⟨h1, h2⟩ := over_beside h he hb ho
  have hbc := h.2.2.2.2.1
  have m1 := (h.2.2.2.2.2.2.2.2.1 b hb).2.2.2.2.1 k (by have := ho.1; omega)
  have m2 := (h.2.2.2.2.2.2.2.2.1 b hb).2.2.2.2.1 (k + 1) ho.1
  unfold c_rest
  rw [h1, h2]
  dsimp only
  rw [m1.1, m2.1, if_pos rfl, if_neg (by
    rintro (z | z)
    · exact nI_pos (by omega) z
    · exact nI_ge hb (by omega) z), nI_clamp (by omega), m1.2]
theorem rest_no (h : rR C M ec bc gc) {e : Nat} (he : e < ec) (h5 : cE C e 5 = 0) (hno : ∀ b k, b < bc → ¬ bOver C e b k) : c_rest C ec bc e = c_rh C e := by
  have hbc := h.2.2.2.2.1
  have hec := h.2.2.2.2.2.1.1
  unfold c_rest
  cases hd : c_nd C (cE C e 1) 64 e with
  | none => rfl
  | some a =>
    cases hu : c_nu C ec (cE C e 1) 64 (e + 1) with
    | none => rfl
    | some z =>
      dsimp only
      by_cases p : cE C a 10 = cE C z 10
      · rw [if_pos p]
        by_cases r : cE C a 10 < 0 ∨ nI bc ≤ cE C a 10
        · rw [if_pos r]
        · exfalso
          obtain ⟨d1, d2, d3, d4⟩ := nd_some 64 e a (by omega) hd
          obtain ⟨u0, u1, u2, u3, u4⟩ := nu_some 64 (e + 1) z (by omega) hu
          have ra : ∃ b k, b < bc ∧ k < csz C b ∧ a = cN C b k := by
            rcases h.2.2.2.2.2.2.2.2.2 a (by omega) with y | y
            · rw [y] at r
              exact absurd (Or.inl (by decide)) r
            · exact y
          have rz : ∃ b k, b < bc ∧ k < csz C b ∧ z = cN C b k := by
            rcases h.2.2.2.2.2.2.2.2.2 z u1 with y | y
            · rw [p, y] at r
              exact absurd (Or.inl (by decide)) r
            · exact y
          obtain ⟨b, k, x1, x2, x3⟩ := ra
          obtain ⟨b', k', y1, y2, y3⟩ := rz
          obtain ⟨w1, w2, w3, w4, w5, w6⟩ := h.2.2.2.2.2.2.2.2.1 b x1
          have m1 := (w5 k x2).1
          have m2 := ((h.2.2.2.2.2.2.2.2.1 b' y1).2.2.2.2.1 k' y2).1
          rw [← x3] at m1
          rw [← y3] at m2
          have eb : b' = b := by
            rw [m1, m2, nI_eq (by omega) (by omega)] at p
            exact p.symm
          subst eb
          have hlt : k < k' := by
            rcases Nat.lt_trichotomy k k' with q | q | q
            · exact q
            · subst q
              omega
            · have := con_lt w6 (k - k' - 1) k' (by omega)
              rw [show k' + (k - k' - 1) + 1 = k by omega] at this
              omega
          have hv0 : cE C (cN C b' 0) 1 = cE C e 1 := by rw [← w6.1 k x2, ← x3, d2]
          by_cases hk1 : k' = k + 1
          · subst hk1
            exact hno b' k x1 ⟨y2, hv0, by omega, by omega⟩
          · obtain ⟨-, n2, n3, -⟩ := w1.2.2.2 (k + 1) (by omega)
            have nv : cE C (cN C b' (k + 1)) 1 = cE C e 1 := by rw [w6.1 (k + 1) (by omega), hv0]
            have l1 := (w6.2 k (by omega)).1
            have l2 := con_lt w6 (k' - (k + 1) - 1) (k + 1) (by omega)
            rw [show k + 1 + (k' - (k + 1) - 1) + 1 = k' by omega] at l2
            rcases Nat.lt_trichotomy (cN C b' (k + 1)) e with q | q | q
            · exact n3 (d4 _ (by omega) q nv)
            · rw [q] at n3
              exact n3 h5
            · exact n3 (u4 _ (by omega) (by omega) nv)
      · rw [if_neg p]
end
