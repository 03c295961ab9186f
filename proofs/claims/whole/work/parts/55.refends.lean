/-! what a stem's aim reads -/
theorem st_dir {E E' : cS} {a : Nat} (h : ∀ k, (k < 12 ∨ 15 < k) → cE E' a k = cE E a k) (wy : Int32) : c_dir E' wy a = c_dir E wy a := by
  unfold c_dir
  rw [h 8 (by omega)]
theorem st_near {E E' : cS} {a : Nat} (h : ∀ k, (k < 12 ∨ 15 < k) → cE E' a k = cE E a k) (d : Int32) : e_near E' a d = e_near E a d := by
  unfold e_near
  rw [h 8 (by omega), h 7 (by omega), h 6 (by omega)]
theorem st_more {E E' : cS} {a : Nat} (h : ∀ k, (k < 12 ∨ 15 < k) → cE E' a k = cE E a k) : e_more E' a = e_more E a := by
  unfold e_more e_lev
  rw [h 2 (by omega)]
theorem st_want {E E' : cS} {a : Nat} (h : ∀ k, (k < 12 ∨ 15 < k) → cE E' a k = cE E a k) (d b : Int32) : e_want E' a d b = e_want E a d b := by
  unfold e_want
  rw [st_near h, st_more h, h 8 (by omega)]
theorem st_aim {E E' : cS} {a : Nat} (h : ∀ k, cE E' a k = cE E a k) {wy : Int32} (hA : eAim E wy a) : eAim E' wy a := by
  unfold eAim
  rw [st_dir (fun k _ => h k), st_near (fun k _ => h k), st_more (fun k _ => h k), st_want (fun k _ => h k), h, h, h, h]
  exact hA
theorem e_aim_ne (D : cS) {i a : Nat} (d b : Int32) (h : a ≠ i) (k : Nat) : cE (e_aim D i d b) a k = cE D a k := by
  unfold e_aim
  rw [cE_sE, up2_ne _ _ h, cE_sE, up2_ne _ _ h, cE_sE, up2_ne _ _ h, cE_sE, up2_ne _ _ h]
theorem e_aim_12 (D : cS) (i : Nat) (d b : Int32) : cE (e_aim D i d b) i 12 = d := by
  unfold e_aim
  rw [cE_sE, up2_k _ _ (by decide), cE_sE, up2_k _ _ (by decide), cE_sE, up2_k _ _ (by decide), cE_sE, up2_eq, if_pos rfl]
theorem e_aim_13 (D : cS) (i : Nat) (d b : Int32) : cE (e_aim D i d b) i 13 = e_near D i d := by
  unfold e_aim
  rw [cE_sE, up2_k _ _ (by decide), cE_sE, up2_k _ _ (by decide), cE_sE, up2_eq, if_pos rfl]
theorem e_aim_14 (D : cS) (i : Nat) (d b : Int32) : cE (e_aim D i d b) i 14 = e_want D i d b := by
  unfold e_aim
  rw [cE_sE, up2_k _ _ (by decide), cE_sE, up2_eq, if_pos rfl]
theorem e_aim_15 (D : cS) (i : Nat) (d b : Int32) : cE (e_aim D i d b) i 15 = 10 + e_more D i := by
  unfold e_aim
  rw [cE_sE, up2_eq, if_pos rfl]
theorem aimK_all (D : cS) (b : Nat) (wy : Int32) : ∀ (m i : Nat) (E : cS), (∀ k, k < i → eAim E wy (cN D b k)) → ∀ k, k < i + m → eAim (itr (m_aimK D b wy) m i E) wy (cN D b k)
  | 0, i, E, h, k, hk => h k (by omega)
  | m + 1, i, E, h, k, hk => by
    rw [itr]
    refine aimK_all D b wy m (i + 1) _ (fun a ha => ?_) k (by omega)
    have hst : ∀ c k, (k < 12 ∨ 15 < k) → cE (m_aimK D b wy i E) c k = cE E c k := fun c k hk => by
      unfold m_aimK
      rw [e_aim_E _ _ _ _ _ hk]
    by_cases e : cN D b a = cN D b i
    · rw [e]
      have s1 := st_dir (hst (cN D b i)) wy
      have s2 := st_near (hst (cN D b i))
      have s3 := st_more (hst (cN D b i))
      have s4 := st_want (hst (cN D b i))
      unfold eAim
      rw [s1, s2, s3, s4]
      have hd : c_dir E wy (cN D b i) = (if wy = 0 then (if cE E (cN D b i) 8 = 0 then -1 else 1) else wy) := rfl
      rw [hd]
      unfold m_aimK
      rw [e_aim_12, e_aim_13, e_aim_14, e_aim_15]
      exact ⟨rfl, rfl, rfl, rfl⟩
    · have ha' : a < i := by
        rcases Nat.lt_or_ge a i with h' | h'
        · exact h'
        · have : a = i := by omega
          rw [this] at e
          exact absurd rfl e
      refine st_aim (fun k => ?_) (h a ha')
      unfold m_aimK
      rw [e_aim_ne _ _ _ e]
theorem m_aim_all (D : cS) (b s : Nat) (two : Int32) : ∀ k, k < s → eAim (m_aim D b s two) (m_way D b s two) (cN D b k) := fun k hk => aimK_all D b _ s 0 _ (fun k h => absurd h (by omega)) k (by omega)
theorem m_way_or (D : cS) (b s : Nat) (two : Int32) : m_way D b s two = 0 ∨ m_way D b s two = 1 ∨ m_way D b s two = -1 := by
  unfold m_way m_byH m_whE e_alone
  repeat (first | split | exact Or.inl rfl | exact Or.inr (Or.inl rfl) | exact Or.inr (Or.inr rfl))
theorem m_flat_or (D : cS) (b s : Nat) : m_flat D b s = 0 ∨ m_flat D b s = 1 := by
  unfold m_flat
  split
  · exact Or.inl rfl
  · split
    · exact Or.inr rfl
    · exact m_inF_01 D b _ _ _ _ _ (Or.inl rfl)
theorem clip_eq (x : Int32) : m_clip x = if x ≤ 6 then (if -6 ≤ x then x else -6) else 6 := by
  have hx := zI_self x
  have b1 := x.le_toInt
  have b2 := x.toInt_lt
  rw [← hx]
  unfold m_clip
  rw [show (-6 : Int32) = zI (-6) from rfl, show (6 : Int32) = zI 6 from rfl]
  have e1 : zI x.toInt < zI 6 ↔ x.toInt < 6 := zI_lt (by omega) (by omega) (by omega) (by omega)
  have e2 : zI x.toInt ≤ zI 6 ↔ x.toInt ≤ 6 := zI_le (by omega) (by omega) (by omega) (by omega)
  have e3 : zI (-6) < zI x.toInt ↔ -6 < x.toInt := zI_lt (by omega) (by omega) (by omega) (by omega)
  have e4 : zI (-6) ≤ zI x.toInt ↔ -6 ≤ x.toInt := zI_le (by omega) (by omega) (by omega) (by omega)
  by_cases h : x.toInt < 6
  · rw [if_pos (e1.mpr h), if_pos (e2.mpr (by omega))]
    by_cases h' : -6 < x.toInt
    · rw [if_pos (e3.mpr h'), if_pos (e4.mpr (by omega))]
    · rw [if_neg (fun r => h' (e3.mp r))]
      by_cases h'' : -6 ≤ x.toInt
      · rw [if_pos (e4.mpr h'')]
        congr 1
        omega
      · rw [if_neg (fun r => h'' (e4.mp r))]
  · rw [if_neg (fun r => h (e1.mp r)), if_pos (by decide)]
    by_cases h' : x.toInt ≤ 6
    · rw [if_pos (e2.mpr h'), if_pos (e4.mpr (by omega))]
      congr 1
      omega
    · rw [if_neg (fun r => h' (e2.mp r))]
theorem clip_in (x : Int32) : inR (m_clip x) (-6) 6 := by
  have hx := zI_self x
  have b1 := x.le_toInt
  have b2 := x.toInt_lt
  rw [clip_eq, ← hx, show (-6 : Int32) = zI (-6) from rfl, show (6 : Int32) = zI 6 from rfl]
  split
  · rename_i h
    rw [zI_le (by omega) (by omega) (by omega) (by omega)] at h
    split
    · rename_i h'
      rw [zI_le (by omega) (by omega) (by omega) (by omega)] at h'
      exact ⟨x.toInt, by omega, by omega, rfl⟩
    · exact ⟨-6, by omega, by omega, rfl⟩
  · exact ⟨6, by omega, by omega, rfl⟩
theorem ideal_in (D : cS) (b s : Nat) : inR (m_ideal D b s) (-6) 6 := by
  unfold m_ideal
  split
  · split
    · exact ⟨0, by omega, by omega, rfl⟩
    · exact clip_in _
  · exact ⟨0, by omega, by omega, rfl⟩
/-- what the relations see of the class -/
theorem eR_C {D D' : cS} {M : mS} {ec : Nat} (h : ∀ a k, (k < 10 ∨ 15 < k) → cE D' a k = cE D a k) (he : eR D M ec) : eR D' M ec := by
  refine ⟨he.1, he.2.1, fun i hi => ?_⟩
  have g := he.2.2 i hi
  unfold eOK eO1 eO2 eO3 at g ⊢
  rw [h i 0 (by omega), h i 1 (by omega), h i 2 (by omega), h i 3 (by omega), h i 4 (by omega), h i 5 (by omega), h i 6 (by omega), h i 7 (by omega), h i 8 (by omega), h i 9 (by omega), h i 16 (by omega), h i 17 (by omega)]
  exact g
theorem bN_C {D D' : cS} {M : mS} {b ec : Nat} (h : ∀ a k, (k < 10 ∨ 15 < k) → cE D' a k = cE D a k) (h1 : cM D' b 1 = cM D b 1) (hN : cN D' = cN D) (hb : bN D M b ec) : bN D' M b ec := by
  have hc : csz D' b = csz D b := by
    unfold csz
    rw [h1]
  unfold bN
  rw [hc, hN]
  refine ⟨hb.1, hb.2.1, hb.2.2.1, fun k hk => ?_⟩
  obtain ⟨g1, g2, g3, g4⟩ := hb.2.2.2 k hk
  rw [h _ 5 (by omega), h _ 2 (by omega)]
  exact ⟨g1, g2, g3, g4⟩
/-- row b, its size apart -/
def bN0 (C : cS) (M : mS) (b ec : Nat) : Prop := b < 33 ∧ csz C b ≤ 16 ∧ ∀ k, k < csz C b → mA M 21 (16 * b + k) = nI (cN C b k) ∧ cN C b k < ec ∧ (¬ cE C (cN C b k) 5 = 0) ∧ inR (cE C (cN C b k) 2) 3 6
def r_e1 (D : cS) (M : mS) (b : Nat) : mS := tA (tA M 20 b (nI (csz D b))) 27 b 0
def r_e2 (D : cS) (M : mS) (b : Nat) : mS := tA (r_e1 D M b) 22 b (m_way D b (csz D b) (c_two D))
def r_e3 (D : cS) (M : mS) (b : Nat) : mS := tA (r_e2 D M b) 26 b (m_flat (m_aim D b (csz D b) (c_two D)) b (csz D b))
def r_e4 (D : cS) (M : mS) (b : Nat) : mS := tA (r_e3 D M b) 25 b (m_ideal (m_aim D b (csz D b) (c_two D)) b (csz D b))
def r_eT (D : cS) (M : mS) (b : Nat) : Int64 × Int32 × Int32 := r_fi (c_fin1 D b) b (csz D b) (mA M 23 b) (mA M 24 b)
def r_e5 (D : cS) (M : mS) (b : Nat) : mS := r_set (r_e4 D M b) b (r_eT D M b)
def r_ends (D : cS) (M : mS) (b : Nat) : mS := if csz D b < 2 then M else if (r_eT D M b).1 < 0 then tI (r_e5 D M b) 19 (mI M 19 + 1) else tI (r_e5 D M b) 18 (mI M 18 + 1)
theorem r_e1_A (D : cS) (M : mS) (b : Nat) {k : Nat} (h : k < 20 ∨ k = 21 ∨ k = 22 ∨ k = 23 ∨ k = 24 ∨ k = 25 ∨ k = 26) : mA (r_e1 D M b) k = mA M k := by
  unfold r_e1
  rw [tA_ne _ _ _ (by omega), tA_ne _ _ _ (by omega)]
theorem r_e2_A (D : cS) (M : mS) (b : Nat) {k : Nat} (h : k < 20 ∨ k = 21 ∨ k = 23 ∨ k = 24 ∨ k = 25 ∨ k = 26) : mA (r_e2 D M b) k = mA M k := by
  unfold r_e2
  rw [tA_ne _ _ _ (by omega), r_e1_A _ _ _ (by omega)]
theorem r_e3_A (D : cS) (M : mS) (b : Nat) {k : Nat} (h : k < 20 ∨ k = 21 ∨ k = 23 ∨ k = 24 ∨ k = 25) : mA (r_e3 D M b) k = mA M k := by
  unfold r_e3
  rw [tA_ne _ _ _ (by omega), r_e2_A _ _ _ (by omega)]
theorem r_e4_A (D : cS) (M : mS) (b : Nat) {k : Nat} (h : k < 20 ∨ k = 21 ∨ k = 23 ∨ k = 24) : mA (r_e4 D M b) k = mA M k := by
  unfold r_e4
  rw [tA_ne _ _ _ (by omega), r_e3_A _ _ _ (by omega)]
theorem r_e1_20 (D : cS) (M : mS) (b : Nat) : mA (r_e1 D M b) 20 = upd (mA M 20) b (nI (csz D b)) := by
  unfold r_e1
  rw [tA_ne _ _ _ (by omega), tA_at]
theorem r_e2_20 (D : cS) (M : mS) (b : Nat) : mA (r_e2 D M b) 20 = upd (mA M 20) b (nI (csz D b)) := by
  unfold r_e2
  rw [tA_ne _ _ _ (by omega), r_e1_20]
theorem r_e3_20 (D : cS) (M : mS) (b : Nat) : mA (r_e3 D M b) 20 = upd (mA M 20) b (nI (csz D b)) := by
  unfold r_e3
  rw [tA_ne _ _ _ (by omega), r_e2_20]
theorem r_e4_20 (D : cS) (M : mS) (b : Nat) : mA (r_e4 D M b) 20 = upd (mA M 20) b (nI (csz D b)) := by
  unfold r_e4
  rw [tA_ne _ _ _ (by omega), r_e3_20]
theorem r_e2_22 (D : cS) (M : mS) (b : Nat) : mA (r_e2 D M b) 22 = upd (mA M 22) b (m_way D b (csz D b) (c_two D)) := by
  unfold r_e2
  rw [tA_at, r_e1_A _ _ _ (by omega)]
theorem r_e3_22 (D : cS) (M : mS) (b : Nat) : mA (r_e3 D M b) 22 = upd (mA M 22) b (m_way D b (csz D b) (c_two D)) := by
  unfold r_e3
  rw [tA_ne _ _ _ (by omega), r_e2_22]
theorem r_e4_22 (D : cS) (M : mS) (b : Nat) : mA (r_e4 D M b) 22 = upd (mA M 22) b (m_way D b (csz D b) (c_two D)) := by
  unfold r_e4
  rw [tA_ne _ _ _ (by omega), r_e3_22]
theorem r_e3_26 (D : cS) (M : mS) (b : Nat) : mA (r_e3 D M b) 26 = upd (mA M 26) b (m_flat (m_aim D b (csz D b) (c_two D)) b (csz D b)) := by
  unfold r_e3
  rw [tA_at, r_e2_A _ _ _ (by omega)]
theorem r_e4_26 (D : cS) (M : mS) (b : Nat) : mA (r_e4 D M b) 26 = upd (mA M 26) b (m_flat (m_aim D b (csz D b) (c_two D)) b (csz D b)) := by
  unfold r_e4
  rw [tA_ne _ _ _ (by omega), r_e3_26]
theorem r_e4_25 (D : cS) (M : mS) (b : Nat) : mA (r_e4 D M b) 25 = upd (mA M 25) b (m_ideal (m_aim D b (csz D b) (c_two D)) b (csz D b)) := by
  unfold r_e4
  rw [tA_at, r_e3_A _ _ _ (by omega)]
theorem upd_at (g : Nat → Int32) (b : Nat) (x : Int32) : upd g b x b = x := by simp [upd]
theorem bN0_N {C : cS} {M M' : mS} {b ec : Nat} (h : bN0 C M b ec) (h20 : mA M' 20 = upd (mA M 20) b (nI (csz C b))) (h21 : mA M' 21 = mA M 21) : bN C M' b ec := by
  unfold bN
  rw [h20, h21, upd_at]
  exact ⟨h.1, h.2.1, rfl, h.2.2⟩
section
variable {w : zW} {f : Nat → Option zO} {q : Nat} {M : mS} {n : Nat × Nat} {D : cS} {b ec : Nat}
/-- aimed and judged, row b is the same on both sides -/
theorem e4_rel (he : eR D M ec) (hb : bN0 D M b ec) : (eR (m_aim D b (csz D b) (c_two D)) (r_e3 D M b) ec ∧ bN (m_aim D b (csz D b) (c_two D)) (r_e3 D M b) b ec ∧ bA (m_aim D b (csz D b) (c_two D)) (r_e3 D M b) b) ∧ (eR (m_aim D b (csz D b) (c_two D)) (r_e2 D M b) ec ∧ bN (m_aim D b (csz D b) (c_two D)) (r_e2 D M b) b ec ∧ bA (m_aim D b (csz D b) (c_two D)) (r_e2 D M b) b) ∧ eR (c_fin1 D b) (r_e4 D M b) ec ∧ bN (c_fin1 D b) (r_e4 D M b) b ec ∧ bA (c_fin1 D b) (r_e4 D M b) b ∧ mA (r_e4 D M b) 25 b = cM (c_fin1 D b) b 5 ∧ mA (r_e4 D M b) 26 b = cM (c_fin1 D b) b 7 ∧ (cM (c_fin1 D b) b 7 = 0 ∨ cM (c_fin1 D b) b 7 = 1) ∧ inR (cM (c_fin1 D b) b 5) (-6) 6 ∧ csz (c_fin1 D b) b = csz D b ∧ csz (m_aim D b (csz D b) (c_two D)) b = csz D b := by
  have sA : ∀ a k, (k < 10 ∨ 15 < k) → cE (m_aim D b (csz D b) (c_two D)) a k = cE D a k := fun a k hk => m_aim_E D b _ _ a (by omega)
  have sF : ∀ a k, (k < 10 ∨ 15 < k) → cE (c_fin1 D b) a k = cE D a k := fun a k hk => c_fin1_E D b a (by omega)
  have cA1 : cM (m_aim D b (csz D b) (c_two D)) b 1 = cM D b 1 := by rw [m_aim_M, up2_k _ _ (by decide)]
  have zA : csz (m_aim D b (csz D b) (c_two D)) b = csz D b := congrArg Int32.toNatClampNeg cA1
  have zF : csz (c_fin1 D b) b = csz D b := congrArg Int32.toNatClampNeg (c_fin1_M1 D b b)
  have wA : cM (m_aim D b (csz D b) (c_two D)) b 2 = m_way D b (csz D b) (c_two D) := by rw [m_aim_M, up2_eq, if_pos rfl]
  have mF : cM (c_fin1 D b) = up2 (up2 (cM (m_aim D b (csz D b) (c_two D))) b 7 (m_flat (m_aim D b (csz D b) (c_two D)) b (csz D b))) b 5 (m_ideal (m_aim D b (csz D b) (c_two D)) b (csz D b)) := rfl
  have wF : cM (c_fin1 D b) b 2 = m_way D b (csz D b) (c_two D) := by rw [mF, up2_k _ _ (by decide), up2_k _ _ (by decide), wA]
  have f5 : cM (c_fin1 D b) b 5 = m_ideal (m_aim D b (csz D b) (c_two D)) b (csz D b) := by rw [mF, up2_eq, if_pos rfl]
  have f7 : cM (c_fin1 D b) b 7 = m_flat (m_aim D b (csz D b) (c_two D)) b (csz D b) := by rw [mF, up2_k _ _ (by decide), up2_eq, if_pos rfl]
  have eF : cE (c_fin1 D b) = cE (m_aim D b (csz D b) (c_two D)) := by unfold c_fin1 m_judge; rw [cE_sM, cE_sM]
  have e2 : ∀ C', (∀ a k, (k < 10 ∨ 15 < k) → cE C' a k = cE D a k) → eR C' (r_e2 D M b) ec := fun C' hC => eR_C hC (eR_of (by rfl) (fun k h1 h2 => r_e2_A D M b (by omega)) he)
  have e3 : ∀ C', (∀ a k, (k < 10 ∨ 15 < k) → cE C' a k = cE D a k) → eR C' (r_e3 D M b) ec := fun C' hC => eR_C hC (eR_of (by rfl) (fun k h1 h2 => r_e3_A D M b (by omega)) he)
  have e4 : ∀ C', (∀ a k, (k < 10 ∨ 15 < k) → cE C' a k = cE D a k) → eR C' (r_e4 D M b) ec := fun C' hC => eR_C hC (eR_of (by rfl) (fun k h1 h2 => r_e4_A D M b (by omega)) he)
  refine ⟨⟨e3 _ sA, bN_C sA cA1 (m_aim_N _ _ _ _) (bN0_N hb (r_e3_20 D M b) (r_e3_A D M b (by omega))), ?_⟩, ⟨e2 _ sA, bN_C sA cA1 (m_aim_N _ _ _ _) (bN0_N hb (r_e2_20 D M b) (r_e2_A D M b (by omega))), ?_⟩, e4 _ sF, bN_C sF (c_fin1_M1 D b b) (c_fin1_N D b) (bN0_N hb (r_e4_20 D M b) (r_e4_A D M b (by omega))), ?_, ?_, ?_, ?_, ?_, zF, zA⟩
  · refine ⟨by rw [r_e3_22, upd_at, wA], by rw [wA]; exact m_way_or _ _ _ _, fun k hk => ?_⟩
    rw [wA, m_aim_N]
    exact m_aim_all D b _ _ k (by rw [zA] at hk; exact hk)
  · refine ⟨by rw [r_e2_22, upd_at, wA], by rw [wA]; exact m_way_or _ _ _ _, fun k hk => ?_⟩
    rw [wA, m_aim_N]
    exact m_aim_all D b _ _ k (by rw [zA] at hk; exact hk)
  · refine ⟨by rw [r_e4_22, upd_at, wF], by rw [wF]; exact m_way_or _ _ _ _, fun k hk => ?_⟩
    rw [wF, c_fin1_N]
    refine st_aim (fun k => by rw [eF]) (m_aim_all D b _ _ k ?_)
    rw [zF] at hk
    exact hk
  · rw [r_e4_25, upd_at, f5]
  · rw [r_e4_26, upd_at, f7]
  · rw [f7]
    exact m_flat_or _ _ _
  · rw [f5]
    exact ideal_in _ _ _
theorem ctR_ends (he : eR D M ec) (hV : mA M 16 1 = cV D 1) (hb : bN0 D M b ec) (h18 : mI M 18 = nI b) : zm_C w mX4_ends [.ref q, .int (nI (csz D b))] (mH f q M, n) none (mH f q (r_ends D M b), n) := by
  obtain ⟨⟨a1, a2, a3⟩, ⟨b1, b2, b3⟩, c1, c2, c3, c4, c5, c6, c7, zF, zA⟩ := e4_rel he hb
  have hb33 := hb.1
  have hS := hb.2.1
  have hcb : (nI b).toNatClampNeg = b := nI_clamp (by omega)
  have e2 : (2 : Int32) ≤ nI (csz D b) ↔ 2 ≤ csz D b := nI_leI (a := 2) (by decide) (by omega)
  refine zm_C.of (mc := 0) (ms := 0) rfl rfl (by decide) (Nat.le_of_ble_eq_true rfl) ?_
  intro Γ X
  refine bkX4_ends_0 X [some (.ref q), some (.int (nI (csz D b))), none, none] [] _ ?_
  simp only [zi_push, zi_ldi, zi_ldl, zi_lda, zi_sti, zi_stl, zi_sta, zi_inc, zi_b, zi_d, zi_u, zi_bl, zi_dl, zi_ul, zi_lcmp, zi_i2l, zi_l2i, zi_if, zi_ic, zi_nul, zi_dup, zi_pop, zi_dup_x1, zi_dup2, zi_gf, zi_pf, zi_ia, zi_is, zi_la, zi_lst, zi_aa, zi_as, zi_len, zi_new, zi_na, zi_mx, zi_mn, zi_sw, zi_swx, zi_cv, zi_cs, zi_ci, zi_obj, zi_iret, zi_lret, zi_zret, zi_aret, zi_vret, zm_s1, zm_s2, zm_k, zm_tk, zm_Rt, zm_is, List.getElem?_cons_zero, List.getElem?_cons_succ, List.set_cons_zero, List.set_cons_succ, List.length_cons, List.length_nil, List.map_cons, List.map_nil, List.sum_cons, List.sum_nil, List.nil_append, List.cons_append, Option.toList, Value.category, reduceIte, Nat.reduceAdd, Nat.reduceLeDiff, Nat.reduceLT, Nat.reduceEqDiff, Nat.reduceMul, and_true, true_and, and_self, Nat.zero_add, Nat.add_zero, Nat.le_refl, true_or, or_true, not_true_eq_false, not_false_eq_true, zm_ft_int, zm_ft_long, zm_ft_ref, zm_ft_null, zm_ft_b0, zm_ft_b1, i_2, i_3, i_4, i_10, io_16, io_64, io_33, io_2, cF_ev, cF_bm, va_rf, cH_0, cH_1, cH_2, cH_3, cH_4, cH_5, uT4, uT5, uT6, uT7, uB1, uB2, uB3, uG, uV, mH_0, mH_1, mH_2, mH_3, mH_4, mH_5, mH_6, mH_7, mH_8, mH_9, mH_10, mH_11, mH_12, mH_13, mH_14, mH_15, mH_16, mH_17, mH_18, mH_19, mH_20, mH_21, vI0, vI1, vI2, vI3, vI5, vI17, vI18, vI19, vA4, vA6, vA7, vA8, vA9, vA10, vA11, vA12, vA13, vA14, vA15, vA16, vA20, vA21, vA22, vA23, vA24, vA25, vA26, vA27, vD, e2, h18, hcb]
  refine ⟨fun hs => ?_, fun hs => by rw [r_ends, if_pos (by omega)]⟩
  have hE : r_ends D M b = if (r_eT D M b).1 < 0 then tI (r_e5 D M b) 19 (mI M 19 + 1) else tI (r_e5 D M b) 18 (mI M 18 + 1) := by rw [r_ends, if_neg (by omega)]
  refine ⟨vp_in_nI (by omega) (by decide), vp_in_nI (by omega) (by decide), ?_⟩
  have k128 : ∀ x e3 : Int32, x = m_ideal (m_aim D b (csz D b) (c_two D)) b (csz D b) → zm_V w Γ 128 [some (.ref q), some (.int (nI (csz D b))), some (.int (nI b)), some (.int e3)] [.int x, .int (nI b), .ref (q + 18)] (mH f q (r_e3 D M b), n) := by
    intro x e3 hx
    refine bkX4_ends_128 X _ _ _ ?_
    simp only [zi_push, zi_ldi, zi_ldl, zi_lda, zi_sti, zi_stl, zi_sta, zi_inc, zi_b, zi_d, zi_u, zi_bl, zi_dl, zi_ul, zi_lcmp, zi_i2l, zi_l2i, zi_if, zi_ic, zi_nul, zi_dup, zi_pop, zi_dup_x1, zi_dup2, zi_gf, zi_pf, zi_ia, zi_is, zi_la, zi_lst, zi_aa, zi_as, zi_len, zi_new, zi_na, zi_mx, zi_mn, zi_sw, zi_swx, zi_cv, zi_cs, zi_ci, zi_obj, zi_iret, zi_lret, zi_zret, zi_aret, zi_vret, zm_s1, zm_s2, zm_k, zm_tk, zm_Rt, zm_is, List.getElem?_cons_zero, List.getElem?_cons_succ, List.set_cons_zero, List.set_cons_succ, List.length_cons, List.length_nil, List.map_cons, List.map_nil, List.sum_cons, List.sum_nil, List.nil_append, List.cons_append, Option.toList, Value.category, reduceIte, Nat.reduceAdd, Nat.reduceLeDiff, Nat.reduceLT, Nat.reduceEqDiff, Nat.reduceMul, and_true, true_and, and_self, Nat.zero_add, Nat.add_zero, Nat.le_refl, true_or, or_true, not_true_eq_false, not_false_eq_true, zm_ft_int, zm_ft_long, zm_ft_ref, zm_ft_null, zm_ft_b0, zm_ft_b1, i_2, i_3, i_4, i_10, io_16, io_64, io_33, io_2, cF_ev, cF_bm, va_rf, cH_0, cH_1, cH_2, cH_3, cH_4, cH_5, uT4, uT5, uT6, uT7, uB1, uB2, uB3, uG, uV, mH_0, mH_1, mH_2, mH_3, mH_4, mH_5, mH_6, mH_7, mH_8, mH_9, mH_10, mH_11, mH_12, mH_13, mH_14, mH_15, mH_16, mH_17, mH_18, mH_19, mH_20, mH_21, vI0, vI1, vI2, vI3, vI5, vI17, vI18, vI19, vA4, vA6, vA7, vA8, vA9, vA10, vA11, vA12, vA13, vA14, vA15, vA16, vA20, vA21, vA22, vA23, vA24, vA25, vA26, vA27, vD, hcb]
    refine ⟨vp_in_nI (by omega) (by decide), ?_⟩
    rw [hx]
    have ct := ctR_find (w := w) (f := f) (q := q) (n := n) c1 c2 c3 (by rw [zF]; exact hs) c4 c5 c6
    rw [zF, r_e4_A D M b (by omega), r_e4_A D M b (by omega)] at ct
    refine zm_call.of (ct) (Nat.le_refl _) (Nat.le_refl _) ?_
    have eT : r_fi (c_fin1 D b) b (csz D b) (mA M 23 b) (mA M 24 b) = r_eT D M b := rfl
    have e5 : r_set (r_e4 D M b) b (r_eT D M b) = r_e5 D M b := rfl
    rw [eT, e5, hE]
    simp only [zi_push, zi_ldi, zi_ldl, zi_lda, zi_sti, zi_stl, zi_sta, zi_inc, zi_b, zi_d, zi_u, zi_bl, zi_dl, zi_ul, zi_lcmp, zi_i2l, zi_l2i, zi_if, zi_ic, zi_nul, zi_dup, zi_pop, zi_dup_x1, zi_dup2, zi_gf, zi_pf, zi_ia, zi_is, zi_la, zi_lst, zi_aa, zi_as, zi_len, zi_new, zi_na, zi_mx, zi_mn, zi_sw, zi_swx, zi_cv, zi_cs, zi_ci, zi_obj, zi_iret, zi_lret, zi_zret, zi_aret, zi_vret, zm_s1, zm_s2, zm_k, zm_tk, zm_Rt, zm_is, List.getElem?_cons_zero, List.getElem?_cons_succ, List.set_cons_zero, List.set_cons_succ, List.length_cons, List.length_nil, List.map_cons, List.map_nil, List.sum_cons, List.sum_nil, List.nil_append, List.cons_append, Option.toList, Value.category, reduceIte, Nat.reduceAdd, Nat.reduceLeDiff, Nat.reduceLT, Nat.reduceEqDiff, Nat.reduceMul, and_true, true_and, and_self, Nat.zero_add, Nat.add_zero, Nat.le_refl, true_or, or_true, not_true_eq_false, not_false_eq_true, zm_ft_int, zm_ft_long, zm_ft_ref, zm_ft_null, zm_ft_b0, zm_ft_b1, i_2, i_3, i_4, i_10, io_16, io_64, io_33, io_2, cF_ev, cF_bm, va_rf, cH_0, cH_1, cH_2, cH_3, cH_4, cH_5, uT4, uT5, uT6, uT7, uB1, uB2, uB3, uG, uV, mH_0, mH_1, mH_2, mH_3, mH_4, mH_5, mH_6, mH_7, mH_8, mH_9, mH_10, mH_11, mH_12, mH_13, mH_14, mH_15, mH_16, mH_17, mH_18, mH_19, mH_20, mH_21, vI0, vI1, vI2, vI3, vI5, vI17, vI18, vI19, vA4, vA6, vA7, vA8, vA9, vA10, vA11, vA12, vA13, vA14, vA15, vA16, vA20, vA21, vA22, vA23, vA24, vA25, vA26, vA27, vD]
    by_cases p : (r_eT D M b).1 < 0
    · rw [if_pos p, if_pos p]
      exact ⟨fun _ => rfl, fun r => absurd rfl r⟩
    · rw [if_neg p, if_neg p]
      exact ⟨fun r => absurd r (by decide), fun _ => rfl⟩
  have k95 : ∀ e3 : Int32, m_ideal (m_aim D b (csz D b) (c_two D)) b (csz D b) = 0 → zm_V w Γ 95 [some (.ref q), some (.int (nI (csz D b))), some (.int (nI b)), some (.int e3)] [.int (nI b), .ref (q + 18)] (mH f q (r_e3 D M b), n) := by
    intro e3 hx
    refine bkX4_ends_95 X _ _ _ ?_
    simp only [zi_push, zi_ldi, zi_ldl, zi_lda, zi_sti, zi_stl, zi_sta, zi_inc, zi_b, zi_d, zi_u, zi_bl, zi_dl, zi_ul, zi_lcmp, zi_i2l, zi_l2i, zi_if, zi_ic, zi_nul, zi_dup, zi_pop, zi_dup_x1, zi_dup2, zi_gf, zi_pf, zi_ia, zi_is, zi_la, zi_lst, zi_aa, zi_as, zi_len, zi_new, zi_na, zi_mx, zi_mn, zi_sw, zi_swx, zi_cv, zi_cs, zi_ci, zi_obj, zi_iret, zi_lret, zi_zret, zi_aret, zi_vret, zm_s1, zm_s2, zm_k, zm_tk, zm_Rt, zm_is, List.getElem?_cons_zero, List.getElem?_cons_succ, List.set_cons_zero, List.set_cons_succ, List.length_cons, List.length_nil, List.map_cons, List.map_nil, List.sum_cons, List.sum_nil, List.nil_append, List.cons_append, Option.toList, Value.category, reduceIte, Nat.reduceAdd, Nat.reduceLeDiff, Nat.reduceLT, Nat.reduceEqDiff, Nat.reduceMul, and_true, true_and, and_self, Nat.zero_add, Nat.add_zero, Nat.le_refl, true_or, or_true, not_true_eq_false, not_false_eq_true, zm_ft_int, zm_ft_long, zm_ft_ref, zm_ft_null, zm_ft_b0, zm_ft_b1, i_2, i_3, i_4, i_10, io_16, io_64, io_33, io_2, cF_ev, cF_bm, va_rf, cH_0, cH_1, cH_2, cH_3, cH_4, cH_5, uT4, uT5, uT6, uT7, uB1, uB2, uB3, uG, uV, mH_0, mH_1, mH_2, mH_3, mH_4, mH_5, mH_6, mH_7, mH_8, mH_9, mH_10, mH_11, mH_12, mH_13, mH_14, mH_15, mH_16, mH_17, mH_18, mH_19, mH_20, mH_21, vI0, vI1, vI2, vI3, vI5, vI17, vI18, vI19, vA4, vA6, vA7, vA8, vA9, vA10, vA11, vA12, vA13, vA14, vA15, vA16, vA20, vA21, vA22, vA23, vA24, vA25, vA26, vA27, vD]
    exact k128 0 e3 hx.symm
  have wA : cM (m_aim D b (csz D b) (c_two D)) b 2 = m_way D b (csz D b) (c_two D) := by rw [m_aim_M, up2_eq, if_pos rfl]
  have k54 : ∀ x : Int32, x = m_flat (m_aim D b (csz D b) (c_two D)) b (csz D b) → zm_V w Γ 54 [some (.ref q), some (.int (nI (csz D b))), some (.int (nI b)), none] [.int x, .int (nI b), .ref (q + 19)] (mH f q (r_e2 D M b), n) := by
    intro x hx
    have hs' : 2 ≤ csz (m_aim D b (csz D b) (c_two D)) b := by rw [zA]; exact hs
    refine bkX4_ends_54 X _ _ _ ?_
    simp only [zi_push, zi_ldi, zi_ldl, zi_lda, zi_sti, zi_stl, zi_sta, zi_inc, zi_b, zi_d, zi_u, zi_bl, zi_dl, zi_ul, zi_lcmp, zi_i2l, zi_l2i, zi_if, zi_ic, zi_nul, zi_dup, zi_pop, zi_dup_x1, zi_dup2, zi_gf, zi_pf, zi_ia, zi_is, zi_la, zi_lst, zi_aa, zi_as, zi_len, zi_new, zi_na, zi_mx, zi_mn, zi_sw, zi_swx, zi_cv, zi_cs, zi_ci, zi_obj, zi_iret, zi_lret, zi_zret, zi_aret, zi_vret, zm_s1, zm_s2, zm_k, zm_tk, zm_Rt, zm_is, List.getElem?_cons_zero, List.getElem?_cons_succ, List.set_cons_zero, List.set_cons_succ, List.length_cons, List.length_nil, List.map_cons, List.map_nil, List.sum_cons, List.sum_nil, List.nil_append, List.cons_append, Option.toList, Value.category, reduceIte, Nat.reduceAdd, Nat.reduceLeDiff, Nat.reduceLT, Nat.reduceEqDiff, Nat.reduceMul, and_true, true_and, and_self, Nat.zero_add, Nat.add_zero, Nat.le_refl, true_or, or_true, not_true_eq_false, not_false_eq_true, zm_ft_int, zm_ft_long, zm_ft_ref, zm_ft_null, zm_ft_b0, zm_ft_b1, i_2, i_3, i_4, i_10, io_16, io_64, io_33, io_2, cF_ev, cF_bm, va_rf, cH_0, cH_1, cH_2, cH_3, cH_4, cH_5, uT4, uT5, uT6, uT7, uB1, uB2, uB3, uG, uV, mH_0, mH_1, mH_2, mH_3, mH_4, mH_5, mH_6, mH_7, mH_8, mH_9, mH_10, mH_11, mH_12, mH_13, mH_14, mH_15, mH_16, mH_17, mH_18, mH_19, mH_20, mH_21, vI0, vI1, vI2, vI3, vI5, vI17, vI18, vI19, vA4, vA6, vA7, vA8, vA9, vA10, vA11, vA12, vA13, vA14, vA15, vA16, vA20, vA21, vA22, vA23, vA24, vA25, vA26, vA27, vD, hcb, nI_m1 (show 0 < csz D b by omega)]
    refine ⟨vp_in_nI (by omega) (by decide), ?_⟩
    rw [hx]
    have ct1 := ctR_nearAt (w := w) (f := f) (q := q) (n := n) a1 a2 a3 (k := csz D b - 1) (by rw [zA]; omega)
    have ct0 := ctR_nearAt (w := w) (f := f) (q := q) (n := n) a1 a2 a3 (k := 0) (by rw [zA]; omega)
    refine zm_call.of (ct1) (Nat.le_refl _) (Nat.le_refl _) ?_
    simp only [zi_push, zi_ldi, zi_ldl, zi_lda, zi_sti, zi_stl, zi_sta, zi_inc, zi_b, zi_d, zi_u, zi_bl, zi_dl, zi_ul, zi_lcmp, zi_i2l, zi_l2i, zi_if, zi_ic, zi_nul, zi_dup, zi_pop, zi_dup_x1, zi_dup2, zi_gf, zi_pf, zi_ia, zi_is, zi_la, zi_lst, zi_aa, zi_as, zi_len, zi_new, zi_na, zi_mx, zi_mn, zi_sw, zi_swx, zi_cv, zi_cs, zi_ci, zi_obj, zi_iret, zi_lret, zi_zret, zi_aret, zi_vret, zm_s1, zm_s2, zm_k, zm_tk, zm_Rt, zm_is, List.getElem?_cons_zero, List.getElem?_cons_succ, List.set_cons_zero, List.set_cons_succ, List.length_cons, List.length_nil, List.map_cons, List.map_nil, List.sum_cons, List.sum_nil, List.nil_append, List.cons_append, Option.toList, Value.category, reduceIte, Nat.reduceAdd, Nat.reduceLeDiff, Nat.reduceLT, Nat.reduceEqDiff, Nat.reduceMul, and_true, true_and, and_self, Nat.zero_add, Nat.add_zero, Nat.le_refl, true_or, or_true, not_true_eq_false, not_false_eq_true, zm_ft_int, zm_ft_long, zm_ft_ref, zm_ft_null, zm_ft_b0, zm_ft_b1, i_2, i_3, i_4, i_10, io_16, io_64, io_33, io_2, cF_ev, cF_bm, va_rf, cH_0, cH_1, cH_2, cH_3, cH_4, cH_5, uT4, uT5, uT6, uT7, uB1, uB2, uB3, uG, uV, mH_0, mH_1, mH_2, mH_3, mH_4, mH_5, mH_6, mH_7, mH_8, mH_9, mH_10, mH_11, mH_12, mH_13, mH_14, mH_15, mH_16, mH_17, mH_18, mH_19, mH_20, mH_21, vI0, vI1, vI2, vI3, vI5, vI17, vI18, vI19, vA4, vA6, vA7, vA8, vA9, vA10, vA11, vA12, vA13, vA14, vA15, vA16, vA20, vA21, vA22, vA23, vA24, vA25, vA26, vA27, vD]
    refine zm_call.of (ct0) (Nat.le_refl _) (Nat.le_refl _) ?_
    simp only [zi_push, zi_ldi, zi_ldl, zi_lda, zi_sti, zi_stl, zi_sta, zi_inc, zi_b, zi_d, zi_u, zi_bl, zi_dl, zi_ul, zi_lcmp, zi_i2l, zi_l2i, zi_if, zi_ic, zi_nul, zi_dup, zi_pop, zi_dup_x1, zi_dup2, zi_gf, zi_pf, zi_ia, zi_is, zi_la, zi_lst, zi_aa, zi_as, zi_len, zi_new, zi_na, zi_mx, zi_mn, zi_sw, zi_swx, zi_cv, zi_cs, zi_ci, zi_obj, zi_iret, zi_lret, zi_zret, zi_aret, zi_vret, zm_s1, zm_s2, zm_k, zm_tk, zm_Rt, zm_is, List.getElem?_cons_zero, List.getElem?_cons_succ, List.set_cons_zero, List.set_cons_succ, List.length_cons, List.length_nil, List.map_cons, List.map_nil, List.sum_cons, List.sum_nil, List.nil_append, List.cons_append, Option.toList, Value.category, reduceIte, Nat.reduceAdd, Nat.reduceLeDiff, Nat.reduceLT, Nat.reduceEqDiff, Nat.reduceMul, and_true, true_and, and_self, Nat.zero_add, Nat.add_zero, Nat.le_refl, true_or, or_true, not_true_eq_false, not_false_eq_true, zm_ft_int, zm_ft_long, zm_ft_ref, zm_ft_null, zm_ft_b0, zm_ft_b1, i_2, i_3, i_4, i_10, io_16, io_64, io_33, io_2, cF_ev, cF_bm, va_rf, cH_0, cH_1, cH_2, cH_3, cH_4, cH_5, uT4, uT5, uT6, uT7, uB1, uB2, uB3, uG, uV, mH_0, mH_1, mH_2, mH_3, mH_4, mH_5, mH_6, mH_7, mH_8, mH_9, mH_10, mH_11, mH_12, mH_13, mH_14, mH_15, mH_16, mH_17, mH_18, mH_19, mH_20, mH_21, vI0, vI1, vI2, vI3, vI5, vI17, vI18, vI19, vA4, vA6, vA7, vA8, vA9, vA10, vA11, vA12, vA13, vA14, vA15, vA16, vA20, vA21, vA22, vA23, vA24, vA25, vA26, vA27, vD, hcb, r_e3_22, r_e3_26, upd_at]
    have hid : m_ideal (m_aim D b (csz D b) (c_two D)) b (csz D b) = if m_flat (m_aim D b (csz D b) (c_two D)) b (csz D b) = 0 then (if cM (m_aim D b (csz D b) (c_two D)) b 2 = 0 then 0 else m_clip ((m_nz (m_aim D b (csz D b) (c_two D)) b (csz D b) - m_n0 (m_aim D b (csz D b) (c_two D)) b) / 2)) else 0 := rfl
    refine ⟨vp_in_nI (by omega) (by decide), fun r => k95 _ ?_, fun r => ⟨vp_in_nI (by omega) (by decide), fun t => k95 _ ?_, fun t => ?_⟩⟩
    · rw [hid]
      split
      · rw [wA, if_pos r]
      · rfl
    · rw [hid, if_neg (by rw [t]; decide)]
    · have t0 : m_flat (m_aim D b (csz D b) (c_two D)) b (csz D b) = 0 := by
        rcases m_flat_or (m_aim D b (csz D b) (c_two D)) b (csz D b) with h | h
        · exact h
        · exact absurd h t
      rw [if_pos t0, wA, if_neg r, clip_eq] at hid
      refine ⟨fun u => ⟨fun v => k128 _ _ ?_, fun v => k128 _ _ ?_⟩, fun u => k128 _ _ ?_⟩
      · rw [hid]
        exact ((if_pos u).trans (if_pos v)).symm
      · rw [hid]
        exact ((if_pos u).trans (if_neg v)).symm
      · rw [hid]
        exact (if_neg u).symm
  have d1 : eR D (r_e1 D M b) ec := eR_of (by rfl) (fun k h1 h2 => r_e1_A D M b (by omega)) he
  have d2 : bN D (r_e1 D M b) b ec := bN0_N hb (r_e1_20 D M b) (r_e1_A D M b (by omega))
  have d3 : mA (r_e1 D M b) 16 1 = cV D 1 := by rw [r_e1_A D M b (by omega)]; exact hV
  have e1 : tA (tA M 20 b (nI (csz D b))) 27 b 0 = r_e1 D M b := rfl
  rw [e1]
  refine zm_call.of (ctR_direction d1 d3 d2 (by omega)) (Nat.le_refl _) (Nat.le_refl _) ?_
  simp only [zi_push, zi_ldi, zi_ldl, zi_lda, zi_sti, zi_stl, zi_sta, zi_inc, zi_b, zi_d, zi_u, zi_bl, zi_dl, zi_ul, zi_lcmp, zi_i2l, zi_l2i, zi_if, zi_ic, zi_nul, zi_dup, zi_pop, zi_dup_x1, zi_dup2, zi_gf, zi_pf, zi_ia, zi_is, zi_la, zi_lst, zi_aa, zi_as, zi_len, zi_new, zi_na, zi_mx, zi_mn, zi_sw, zi_swx, zi_cv, zi_cs, zi_ci, zi_obj, zi_iret, zi_lret, zi_zret, zi_aret, zi_vret, zm_s1, zm_s2, zm_k, zm_tk, zm_Rt, zm_is, List.getElem?_cons_zero, List.getElem?_cons_succ, List.set_cons_zero, List.set_cons_succ, List.length_cons, List.length_nil, List.map_cons, List.map_nil, List.sum_cons, List.sum_nil, List.nil_append, List.cons_append, Option.toList, Value.category, reduceIte, Nat.reduceAdd, Nat.reduceLeDiff, Nat.reduceLT, Nat.reduceEqDiff, Nat.reduceMul, and_true, true_and, and_self, Nat.zero_add, Nat.add_zero, Nat.le_refl, true_or, or_true, not_true_eq_false, not_false_eq_true, zm_ft_int, zm_ft_long, zm_ft_ref, zm_ft_null, zm_ft_b0, zm_ft_b1, i_2, i_3, i_4, i_10, io_16, io_64, io_33, io_2, cF_ev, cF_bm, va_rf, cH_0, cH_1, cH_2, cH_3, cH_4, cH_5, uT4, uT5, uT6, uT7, uB1, uB2, uB3, uG, uV, mH_0, mH_1, mH_2, mH_3, mH_4, mH_5, mH_6, mH_7, mH_8, mH_9, mH_10, mH_11, mH_12, mH_13, mH_14, mH_15, mH_16, mH_17, mH_18, mH_19, mH_20, mH_21, vI0, vI1, vI2, vI3, vI5, vI17, vI18, vI19, vA4, vA6, vA7, vA8, vA9, vA10, vA11, vA12, vA13, vA14, vA15, vA16, vA20, vA21, vA22, vA23, vA24, vA25, vA26, vA27, vD, hcb]
  refine ⟨vp_in_nI (by omega) (by decide), ?_⟩
  have e2' : tA (r_e1 D M b) 22 b (m_way D b (csz D b) (c_two D)) = r_e2 D M b := rfl
  rw [e2']
  have ctF := ctR_isFlat (w := w) (f := f) (q := q) (n := n) b1 b2 b3 (by rw [zA]; exact hs)
  rw [zA] at ctF
  refine zm_call.of (ctF) (Nat.le_refl _) (Nat.le_refl _) ?_
  simp only [zi_push, zi_ldi, zi_ldl, zi_lda, zi_sti, zi_stl, zi_sta, zi_inc, zi_b, zi_d, zi_u, zi_bl, zi_dl, zi_ul, zi_lcmp, zi_i2l, zi_l2i, zi_if, zi_ic, zi_nul, zi_dup, zi_pop, zi_dup_x1, zi_dup2, zi_gf, zi_pf, zi_ia, zi_is, zi_la, zi_lst, zi_aa, zi_as, zi_len, zi_new, zi_na, zi_mx, zi_mn, zi_sw, zi_swx, zi_cv, zi_cs, zi_ci, zi_obj, zi_iret, zi_lret, zi_zret, zi_aret, zi_vret, zm_s1, zm_s2, zm_k, zm_tk, zm_Rt, zm_is, List.getElem?_cons_zero, List.getElem?_cons_succ, List.set_cons_zero, List.set_cons_succ, List.length_cons, List.length_nil, List.map_cons, List.map_nil, List.sum_cons, List.sum_nil, List.nil_append, List.cons_append, Option.toList, Value.category, reduceIte, Nat.reduceAdd, Nat.reduceLeDiff, Nat.reduceLT, Nat.reduceEqDiff, Nat.reduceMul, and_true, true_and, and_self, Nat.zero_add, Nat.add_zero, Nat.le_refl, true_or, or_true, not_true_eq_false, not_false_eq_true, zm_ft_int, zm_ft_long, zm_ft_ref, zm_ft_null, zm_ft_b0, zm_ft_b1, i_2, i_3, i_4, i_10, io_16, io_64, io_33, io_2, cF_ev, cF_bm, va_rf, cH_0, cH_1, cH_2, cH_3, cH_4, cH_5, uT4, uT5, uT6, uT7, uB1, uB2, uB3, uG, uV, mH_0, mH_1, mH_2, mH_3, mH_4, mH_5, mH_6, mH_7, mH_8, mH_9, mH_10, mH_11, mH_12, mH_13, mH_14, mH_15, mH_16, mH_17, mH_18, mH_19, mH_20, mH_21, vI0, vI1, vI2, vI3, vI5, vI17, vI18, vI19, vA4, vA6, vA7, vA8, vA9, vA10, vA11, vA12, vA13, vA14, vA15, vA16, vA20, vA21, vA22, vA23, vA24, vA25, vA26, vA27, vD]
  refine ⟨fun r => k54 0 r.symm, fun r => k54 1 ?_⟩
  rcases m_flat_or (m_aim D b (csz D b) (c_two D)) b (csz D b) with h | h
  · exact absurd h r
  · exact h.symm
end
