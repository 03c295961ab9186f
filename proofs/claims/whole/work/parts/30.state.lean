/-! the states of class (cS: its own numbers, the bars, group ends, voices, events, beams, badnesses, notes) and reference (mS) as numbers, and the heaps that hold them -/
abbrev cS : Type := (Nat → Int32) × (Nat → Int32) × (Nat → Int32) × (Nat → Int32) × (Nat → Nat → Int32) × (Nat → Nat → Int32) × (Nat → Int64) × (Nat → Nat → Nat)
def cT (C : cS) : Nat → Int32 := C.1
def cB (C : cS) : Nat → Int32 := C.2.1
def cG (C : cS) : Nat → Int32 := C.2.2.1
def cV (C : cS) : Nat → Int32 := C.2.2.2.1
def cE (C : cS) : Nat → Nat → Int32 := C.2.2.2.2.1
def cM (C : cS) : Nat → Nat → Int32 := C.2.2.2.2.2.1
def cD (C : cS) : Nat → Int64 := C.2.2.2.2.2.2.1
def cN (C : cS) : Nat → Nat → Nat := C.2.2.2.2.2.2.2
def up2 {α : Type} (f : Nat → Nat → α) (i k : Nat) (x : α) : Nat → Nat → α := fun a b => if a = i ∧ b = k then x else f a b
def sT (C : cS) (k : Nat) (x : Int32) : cS := (upd C.1 k x, C.2)
def sB (C : cS) (k : Nat) (x : Int32) : cS := (C.1, upd C.2.1 k x, C.2.2)
def sG (C : cS) (k : Nat) (x : Int32) : cS := (C.1, C.2.1, upd C.2.2.1 k x, C.2.2.2)
def sV (C : cS) (k : Nat) (x : Int32) : cS := (C.1, C.2.1, C.2.2.1, upd C.2.2.2.1 k x, C.2.2.2.2)
def sE (C : cS) (i k : Nat) (x : Int32) : cS := (C.1, C.2.1, C.2.2.1, C.2.2.2.1, up2 C.2.2.2.2.1 i k x, C.2.2.2.2.2)
def sM (C : cS) (i k : Nat) (x : Int32) : cS := (C.1, C.2.1, C.2.2.1, C.2.2.2.1, C.2.2.2.2.1, up2 C.2.2.2.2.2.1 i k x, C.2.2.2.2.2.2)
def sD (C : cS) (k : Nat) (x : Int64) : cS := (C.1, C.2.1, C.2.2.1, C.2.2.2.1, C.2.2.2.2.1, C.2.2.2.2.2.1, vp_updL C.2.2.2.2.2.2.1 k x, C.2.2.2.2.2.2.2)
def sN (C : cS) (i k x : Nat) : cS := (C.1, C.2.1, C.2.2.1, C.2.2.2.1, C.2.2.2.2.1, C.2.2.2.2.2.1, C.2.2.2.2.2.2.1, up2 C.2.2.2.2.2.2.2 i k x)
theorem cT_sT (C : cS) (k : Nat) (x : Int32) : cT (sT C k x) = upd (cT C) k x := rfl
theorem cB_sT (C : cS) (k : Nat) (x : Int32) : cB (sT C k x) = cB C := rfl
theorem cG_sT (C : cS) (k : Nat) (x : Int32) : cG (sT C k x) = cG C := rfl
theorem cV_sT (C : cS) (k : Nat) (x : Int32) : cV (sT C k x) = cV C := rfl
theorem cE_sT (C : cS) (k : Nat) (x : Int32) : cE (sT C k x) = cE C := rfl
theorem cM_sT (C : cS) (k : Nat) (x : Int32) : cM (sT C k x) = cM C := rfl
theorem cD_sT (C : cS) (k : Nat) (x : Int32) : cD (sT C k x) = cD C := rfl
theorem cN_sT (C : cS) (k : Nat) (x : Int32) : cN (sT C k x) = cN C := rfl
theorem cT_sB (C : cS) (k : Nat) (x : Int32) : cT (sB C k x) = cT C := rfl
theorem cB_sB (C : cS) (k : Nat) (x : Int32) : cB (sB C k x) = upd (cB C) k x := rfl
theorem cG_sB (C : cS) (k : Nat) (x : Int32) : cG (sB C k x) = cG C := rfl
theorem cV_sB (C : cS) (k : Nat) (x : Int32) : cV (sB C k x) = cV C := rfl
theorem cE_sB (C : cS) (k : Nat) (x : Int32) : cE (sB C k x) = cE C := rfl
theorem cM_sB (C : cS) (k : Nat) (x : Int32) : cM (sB C k x) = cM C := rfl
theorem cD_sB (C : cS) (k : Nat) (x : Int32) : cD (sB C k x) = cD C := rfl
theorem cN_sB (C : cS) (k : Nat) (x : Int32) : cN (sB C k x) = cN C := rfl
theorem cT_sG (C : cS) (k : Nat) (x : Int32) : cT (sG C k x) = cT C := rfl
theorem cB_sG (C : cS) (k : Nat) (x : Int32) : cB (sG C k x) = cB C := rfl
theorem cG_sG (C : cS) (k : Nat) (x : Int32) : cG (sG C k x) = upd (cG C) k x := rfl
theorem cV_sG (C : cS) (k : Nat) (x : Int32) : cV (sG C k x) = cV C := rfl
theorem cE_sG (C : cS) (k : Nat) (x : Int32) : cE (sG C k x) = cE C := rfl
theorem cM_sG (C : cS) (k : Nat) (x : Int32) : cM (sG C k x) = cM C := rfl
theorem cD_sG (C : cS) (k : Nat) (x : Int32) : cD (sG C k x) = cD C := rfl
theorem cN_sG (C : cS) (k : Nat) (x : Int32) : cN (sG C k x) = cN C := rfl
theorem cT_sV (C : cS) (k : Nat) (x : Int32) : cT (sV C k x) = cT C := rfl
theorem cB_sV (C : cS) (k : Nat) (x : Int32) : cB (sV C k x) = cB C := rfl
theorem cG_sV (C : cS) (k : Nat) (x : Int32) : cG (sV C k x) = cG C := rfl
theorem cV_sV (C : cS) (k : Nat) (x : Int32) : cV (sV C k x) = upd (cV C) k x := rfl
theorem cE_sV (C : cS) (k : Nat) (x : Int32) : cE (sV C k x) = cE C := rfl
theorem cM_sV (C : cS) (k : Nat) (x : Int32) : cM (sV C k x) = cM C := rfl
theorem cD_sV (C : cS) (k : Nat) (x : Int32) : cD (sV C k x) = cD C := rfl
theorem cN_sV (C : cS) (k : Nat) (x : Int32) : cN (sV C k x) = cN C := rfl
theorem cT_sE (C : cS) (i k : Nat) (x : Int32) : cT (sE C i k x) = cT C := rfl
theorem cB_sE (C : cS) (i k : Nat) (x : Int32) : cB (sE C i k x) = cB C := rfl
theorem cG_sE (C : cS) (i k : Nat) (x : Int32) : cG (sE C i k x) = cG C := rfl
theorem cV_sE (C : cS) (i k : Nat) (x : Int32) : cV (sE C i k x) = cV C := rfl
theorem cE_sE (C : cS) (i k : Nat) (x : Int32) : cE (sE C i k x) = up2 (cE C) i k x := rfl
theorem cM_sE (C : cS) (i k : Nat) (x : Int32) : cM (sE C i k x) = cM C := rfl
theorem cD_sE (C : cS) (i k : Nat) (x : Int32) : cD (sE C i k x) = cD C := rfl
theorem cN_sE (C : cS) (i k : Nat) (x : Int32) : cN (sE C i k x) = cN C := rfl
theorem cT_sM (C : cS) (i k : Nat) (x : Int32) : cT (sM C i k x) = cT C := rfl
theorem cB_sM (C : cS) (i k : Nat) (x : Int32) : cB (sM C i k x) = cB C := rfl
theorem cG_sM (C : cS) (i k : Nat) (x : Int32) : cG (sM C i k x) = cG C := rfl
theorem cV_sM (C : cS) (i k : Nat) (x : Int32) : cV (sM C i k x) = cV C := rfl
theorem cE_sM (C : cS) (i k : Nat) (x : Int32) : cE (sM C i k x) = cE C := rfl
theorem cM_sM (C : cS) (i k : Nat) (x : Int32) : cM (sM C i k x) = up2 (cM C) i k x := rfl
theorem cD_sM (C : cS) (i k : Nat) (x : Int32) : cD (sM C i k x) = cD C := rfl
theorem cN_sM (C : cS) (i k : Nat) (x : Int32) : cN (sM C i k x) = cN C := rfl
theorem cT_sD (C : cS) (k : Nat) (x : Int64) : cT (sD C k x) = cT C := rfl
theorem cB_sD (C : cS) (k : Nat) (x : Int64) : cB (sD C k x) = cB C := rfl
theorem cG_sD (C : cS) (k : Nat) (x : Int64) : cG (sD C k x) = cG C := rfl
theorem cV_sD (C : cS) (k : Nat) (x : Int64) : cV (sD C k x) = cV C := rfl
theorem cE_sD (C : cS) (k : Nat) (x : Int64) : cE (sD C k x) = cE C := rfl
theorem cM_sD (C : cS) (k : Nat) (x : Int64) : cM (sD C k x) = cM C := rfl
theorem cD_sD (C : cS) (k : Nat) (x : Int64) : cD (sD C k x) = vp_updL (cD C) k x := rfl
theorem cN_sD (C : cS) (k : Nat) (x : Int64) : cN (sD C k x) = cN C := rfl
theorem cT_sN (C : cS) (i k x : Nat) : cT (sN C i k x) = cT C := rfl
theorem cB_sN (C : cS) (i k x : Nat) : cB (sN C i k x) = cB C := rfl
theorem cG_sN (C : cS) (i k x : Nat) : cG (sN C i k x) = cG C := rfl
theorem cV_sN (C : cS) (i k x : Nat) : cV (sN C i k x) = cV C := rfl
theorem cE_sN (C : cS) (i k x : Nat) : cE (sN C i k x) = cE C := rfl
theorem cM_sN (C : cS) (i k x : Nat) : cM (sN C i k x) = cM C := rfl
theorem cD_sN (C : cS) (i k x : Nat) : cD (sN C i k x) = cD C := rfl
theorem cN_sN (C : cS) (i k x : Nat) : cN (sN C i k x) = up2 (cN C) i k x := rfl
def cF_ev (e : Nat → Int32) : List Value := [.int (e 0), .int (e 1), .int (e 2), .int (e 3), .int (e 4), .int (e 5), .int (e 6), .int (e 7), .int (e 8), .int (e 9), .int (e 10), .int (e 11), .int (e 12), .int (e 13), .int (e 14), .int (e 15), .int (e 16), .int (e 17)]
def cF_bm (na : Nat) (b : Nat → Int32) (x : Int64) : List Value := [.ref na, .int (b 1), .int (b 2), .int (b 3), .int (b 4), .int (b 5), .int (b 6), .int (b 7), .long x]
def cF_nt (o : Nat) (t : Nat → Nat) : Nat → Option Nat := fun k => if k < 16 then some (o + 6 + t k) else none
def c_cell (o : Nat) (C : cS) (d : Nat) : zO :=
  if d = 0 then .inr (3, [.ref (o + 1), .ref (o + 3), .ref (o + 4), .ref (o + 5), .int (cT C 4), .int (cT C 5), .int (cT C 6), .int (cT C 7)])
  else if d = 1 then .inr (0, [.ref (o + 2), .int (cB C 1), .int (cB C 2), .int (cB C 3)])
  else if d = 2 then .inl (0, 16, .inl (cG C))
  else if d = 3 then .inl (2, 64, .inr (.inr (.inr (.inr (fun i => if i < 64 then some (o + 6 + i) else none)))))
  else if d = 4 then .inl (3, 33, .inr (.inr (.inr (.inr (fun j => if j < 33 then some (o + 71 + 2 * j) else none)))))
  else if d = 5 then .inl (0, 2, .inl (cV C))
  else if d < 71 then .inr (2, cF_ev (cE C (d - 6)))
  else if (d - 71) % 2 = 0 then .inr (1, cF_bm (o + d + 1) (cM C ((d - 71) / 2)) (cD C ((d - 71) / 2)))
  else .inl (2, 16, .inr (.inr (.inr (.inr (cF_nt o (cN C ((d - 71) / 2)))))))
def cH (f : Nat → Option zO) (o : Nat) (C : cS) : Nat → Option zO := fun a => if o ≤ a ∧ a < o + 137 then some (c_cell o C (a - o)) else f a
theorem cH_at {f : Nat → Option zO} {o : Nat} {C : cS} (d : Nat) (hd : d < 137) : cH f o C (o + d) = some (c_cell o C d) := by
  unfold cH
  rw [if_pos ⟨by omega, by omega⟩, show o + d - o = d by omega]
theorem cH_0 (f : Nat → Option zO) (o : Nat) (C : cS) : cH f o C o = some (.inr (3, [.ref (o + 1), .ref (o + 3), .ref (o + 4), .ref (o + 5), .int (cT C 4), .int (cT C 5), .int (cT C 6), .int (cT C 7)])) := cH_at 0 (by decide)
theorem cH_1 (f : Nat → Option zO) (o : Nat) (C : cS) : cH f o C (o + 1) = some (.inr (0, [.ref (o + 2), .int (cB C 1), .int (cB C 2), .int (cB C 3)])) := cH_at 1 (by decide)
theorem cH_2 (f : Nat → Option zO) (o : Nat) (C : cS) : cH f o C (o + 2) = some (.inl (0, 16, .inl (cG C))) := cH_at 2 (by decide)
theorem cH_3 (f : Nat → Option zO) (o : Nat) (C : cS) : cH f o C (o + 3) = some (.inl (2, 64, .inr (.inr (.inr (.inr (fun i => if i < 64 then some (o + 6 + i) else none)))))) := cH_at 3 (by decide)
theorem cH_4 (f : Nat → Option zO) (o : Nat) (C : cS) : cH f o C (o + 4) = some (.inl (3, 33, .inr (.inr (.inr (.inr (fun j => if j < 33 then some (o + 71 + 2 * j) else none)))))) := cH_at 4 (by decide)
theorem cH_5 (f : Nat → Option zO) (o : Nat) (C : cS) : cH f o C (o + 5) = some (.inl (0, 2, .inl (cV C))) := cH_at 5 (by decide)
theorem cH_ev {f : Nat → Option zO} {o : Nat} {C : cS} {i : Nat} (hi : i ≤ 64) : cH f o C (o + 6 + i) = some (.inr (2, cF_ev (cE C i))) := by
  rw [Nat.add_assoc, cH_at (6 + i) (by omega)]
  unfold c_cell
  rw [if_neg (by omega), if_neg (by omega), if_neg (by omega), if_neg (by omega), if_neg (by omega), if_neg (by omega), if_pos (by omega), show 6 + i - 6 = i by omega]
theorem cH_bm {f : Nat → Option zO} {o : Nat} {C : cS} {j : Nat} (hj : j < 33) : cH f o C (o + 71 + 2 * j) = some (.inr (1, cF_bm (o + 72 + 2 * j) (cM C j) (cD C j))) := by
  rw [Nat.add_assoc, cH_at (71 + 2 * j) (by omega)]
  unfold c_cell
  rw [if_neg (by omega), if_neg (by omega), if_neg (by omega), if_neg (by omega), if_neg (by omega), if_neg (by omega), if_neg (by omega), if_pos (by omega), show (71 + 2 * j - 71) / 2 = j by omega, show o + (71 + 2 * j) + 1 = o + 72 + 2 * j by omega]
theorem cH_nt {f : Nat → Option zO} {o : Nat} {C : cS} {j : Nat} (hj : j < 33) : cH f o C (o + 72 + 2 * j) = some (.inl (2, 16, .inr (.inr (.inr (.inr (cF_nt o (cN C j))))))) := by
  rw [Nat.add_assoc, cH_at (72 + 2 * j) (by omega)]
  unfold c_cell
  rw [if_neg (by omega), if_neg (by omega), if_neg (by omega), if_neg (by omega), if_neg (by omega), if_neg (by omega), if_neg (by omega), if_neg (by omega), show (72 + 2 * j - 71) / 2 = j by omega]
/-- a write: the cells but one are as they were -/
theorem cH_put {f : Nat → Option zO} {o : Nat} {C C' : cS} (d : Nat) (hd : d < 137) {x : zO} (hx : c_cell o C' d = x) (ho : ∀ e, e < 137 → e ≠ d → c_cell o C' e = c_cell o C e) : zm_up (cH f o C) (o + d) x = cH f o C' := by
  funext a
  by_cases ha : a = o + d
  · subst ha
    rw [zm_up_self, cH_at d hd, hx]
  · rw [zm_up_ne _ _ ha]
    unfold cH
    by_cases hr : o ≤ a ∧ a < o + 137
    · rw [if_pos hr, if_pos hr, ho (a - o) (by omega) (by omega)]
    · rw [if_neg hr, if_neg hr]
theorem uT4 (f : Nat → Option zO) (o : Nat) (C : cS) (x : Int32) : zm_up (cH f o C) o (.inr (3, [.ref (o + 1), .ref (o + 3), .ref (o + 4), .ref (o + 5), .int x, .int (cT C 5), .int (cT C 6), .int (cT C 7)])) = cH f o (sT C 4 x) := cH_put 0 (by decide) rfl (fun e h1 h2 => by unfold c_cell; rw [if_neg h2, if_neg h2]; rfl)
theorem uT5 (f : Nat → Option zO) (o : Nat) (C : cS) (x : Int32) : zm_up (cH f o C) o (.inr (3, [.ref (o + 1), .ref (o + 3), .ref (o + 4), .ref (o + 5), .int (cT C 4), .int x, .int (cT C 6), .int (cT C 7)])) = cH f o (sT C 5 x) := cH_put 0 (by decide) rfl (fun e h1 h2 => by unfold c_cell; rw [if_neg h2, if_neg h2]; rfl)
theorem uT6 (f : Nat → Option zO) (o : Nat) (C : cS) (x : Int32) : zm_up (cH f o C) o (.inr (3, [.ref (o + 1), .ref (o + 3), .ref (o + 4), .ref (o + 5), .int (cT C 4), .int (cT C 5), .int x, .int (cT C 7)])) = cH f o (sT C 6 x) := cH_put 0 (by decide) rfl (fun e h1 h2 => by unfold c_cell; rw [if_neg h2, if_neg h2]; rfl)
theorem uT7 (f : Nat → Option zO) (o : Nat) (C : cS) (x : Int32) : zm_up (cH f o C) o (.inr (3, [.ref (o + 1), .ref (o + 3), .ref (o + 4), .ref (o + 5), .int (cT C 4), .int (cT C 5), .int (cT C 6), .int x])) = cH f o (sT C 7 x) := cH_put 0 (by decide) rfl (fun e h1 h2 => by unfold c_cell; rw [if_neg h2, if_neg h2]; rfl)
theorem uB1 (f : Nat → Option zO) (o : Nat) (C : cS) (x : Int32) : zm_up (cH f o C) (o + 1) (.inr (0, [.ref (o + 2), .int x, .int (cB C 2), .int (cB C 3)])) = cH f o (sB C 1 x) := cH_put 1 (by decide) rfl (fun e h1 h2 => by unfold c_cell; rw [if_neg h2, if_neg h2]; rfl)
theorem uB2 (f : Nat → Option zO) (o : Nat) (C : cS) (x : Int32) : zm_up (cH f o C) (o + 1) (.inr (0, [.ref (o + 2), .int (cB C 1), .int x, .int (cB C 3)])) = cH f o (sB C 2 x) := cH_put 1 (by decide) rfl (fun e h1 h2 => by unfold c_cell; rw [if_neg h2, if_neg h2]; rfl)
theorem uB3 (f : Nat → Option zO) (o : Nat) (C : cS) (x : Int32) : zm_up (cH f o C) (o + 1) (.inr (0, [.ref (o + 2), .int (cB C 1), .int (cB C 2), .int x])) = cH f o (sB C 3 x) := cH_put 1 (by decide) rfl (fun e h1 h2 => by unfold c_cell; rw [if_neg h2, if_neg h2]; rfl)
theorem uG (f : Nat → Option zO) (o : Nat) (C : cS) (i : Nat) (x : Int32) : zm_up (cH f o C) (o + 2) (.inl (0, 16, .inl (upd (cG C) i x))) = cH f o (sG C i x) := cH_put 2 (by decide) rfl (fun e h1 h2 => by unfold c_cell; rw [if_neg h2, if_neg h2]; rfl)
theorem uV (f : Nat → Option zO) (o : Nat) (C : cS) (i : Nat) (x : Int32) : zm_up (cH f o C) (o + 5) (.inl (0, 2, .inl (upd (cV C) i x))) = cH f o (sV C i x) := cH_put 5 (by decide) rfl (fun e h1 h2 => by unfold c_cell; rw [if_neg h2, if_neg h2]; rfl)
theorem c_cell_ev {o : Nat} {C : cS} {i : Nat} (hi : i ≤ 64) : c_cell o C (6 + i) = .inr (2, cF_ev (cE C i)) := by
  unfold c_cell
  rw [if_neg (by omega), if_neg (by omega), if_neg (by omega), if_neg (by omega), if_neg (by omega), if_neg (by omega), if_pos (by omega), show 6 + i - 6 = i by omega]
theorem c_cell_bm {o : Nat} {C : cS} {j : Nat} (hj : j < 33) : c_cell o C (71 + 2 * j) = .inr (1, cF_bm (o + 72 + 2 * j) (cM C j) (cD C j)) := by
  unfold c_cell
  rw [if_neg (by omega), if_neg (by omega), if_neg (by omega), if_neg (by omega), if_neg (by omega), if_neg (by omega), if_neg (by omega), if_pos (by omega), show (71 + 2 * j - 71) / 2 = j by omega, show o + (71 + 2 * j) + 1 = o + 72 + 2 * j by omega]
theorem c_cell_nt {o : Nat} {C : cS} {j : Nat} (hj : j < 33) : c_cell o C (72 + 2 * j) = .inl (2, 16, .inr (.inr (.inr (.inr (cF_nt o (cN C j)))))) := by
  unfold c_cell
  rw [if_neg (by omega), if_neg (by omega), if_neg (by omega), if_neg (by omega), if_neg (by omega), if_neg (by omega), if_neg (by omega), if_neg (by omega), show (72 + 2 * j - 71) / 2 = j by omega]
theorem up2_ne {α : Type} (f : Nat → Nat → α) {i k a : Nat} (x : α) (h : a ≠ i) : up2 f i k x a = f a := by
  funext b
  simp [up2, h]
theorem up2_eq {α : Type} (f : Nat → Nat → α) (i k : Nat) (x : α) (b : Nat) : up2 f i k x i b = if b = k then x else f i b := by simp [up2]
theorem sE_put {f : Nat → Option zO} {o : Nat} {C : cS} {i : Nat} (hi : i ≤ 64) (k : Nat) (x : Int32) {v : List Value} (hv : cF_ev (up2 (cE C) i k x i) = v) : zm_up (cH f o C) (o + 6 + i) (.inr (2, v)) = cH f o (sE C i k x) := by
  rw [Nat.add_assoc]
  refine cH_put (6 + i) (by omega) (by rw [c_cell_ev hi, cE_sE, hv]) (fun e h1 h2 => ?_)
  unfold c_cell
  simp only [cT_sE, cB_sE, cG_sE, cV_sE, cE_sE, cM_sE, cD_sE, cN_sE]
  by_cases he : 6 ≤ e ∧ e < 71
  · rw [up2_ne _ _ (show e - 6 ≠ i by omega)]
  · by_cases h7 : e < 71
    · rw [if_pos h7, if_pos h7]
      rcases (show e = 0 ∨ e = 1 ∨ e = 2 ∨ e = 3 ∨ e = 4 ∨ e = 5 by omega) with rfl | rfl | rfl | rfl | rfl | rfl <;> rfl
    · rw [if_neg h7, if_neg h7]
theorem sM_put {f : Nat → Option zO} {o : Nat} {C : cS} {j : Nat} (hj : j < 33) (k : Nat) (x : Int32) {v : List Value} (hv : cF_bm (o + 72 + 2 * j) (up2 (cM C) j k x j) (cD C j) = v) : zm_up (cH f o C) (o + 71 + 2 * j) (.inr (1, v)) = cH f o (sM C j k x) := by
  rw [Nat.add_assoc]
  refine cH_put (71 + 2 * j) (by omega) (by rw [c_cell_bm hj, cM_sM, cD_sM, hv]) (fun e h1 h2 => ?_)
  unfold c_cell
  simp only [cT_sM, cB_sM, cG_sM, cV_sM, cE_sM, cM_sM, cD_sM, cN_sM]
  by_cases h7 : e < 71
  · rw [if_pos h7, if_pos h7]
  · rw [if_neg h7, if_neg h7]
    by_cases h8 : (e - 71) % 2 = 0
    · rw [if_pos h8, if_pos h8, up2_ne _ _ (show (e - 71) / 2 ≠ j by omega)]
    · rw [if_neg h8, if_neg h8]
theorem sD_put {f : Nat → Option zO} {o : Nat} {C : cS} {j : Nat} (hj : j < 33) (x : Int64) {v : List Value} (hv : cF_bm (o + 72 + 2 * j) (cM C j) x = v) : zm_up (cH f o C) (o + 71 + 2 * j) (.inr (1, v)) = cH f o (sD C j x) := by
  rw [Nat.add_assoc]
  refine cH_put (71 + 2 * j) (by omega) (by rw [c_cell_bm hj, cM_sD, cD_sD, ← hv]; simp [vp_updL]) (fun e h1 h2 => ?_)
  unfold c_cell
  simp only [cT_sD, cB_sD, cG_sD, cV_sD, cE_sD, cM_sD, cD_sD, cN_sD]
  by_cases h7 : e < 71
  · rw [if_pos h7, if_pos h7]
  · rw [if_neg h7, if_neg h7]
    by_cases h8 : (e - 71) % 2 = 0
    · rw [if_pos h8, if_pos h8]
      simp [vp_updL, show ¬ (e - 71) / 2 = j by omega]
    · rw [if_neg h8, if_neg h8]
theorem uN (f : Nat → Option zO) (o : Nat) (C : cS) {j k : Nat} (hj : j < 33) (hk : k < 16) (e : Nat) : zm_up (cH f o C) (o + 72 + 2 * j) (.inl (2, 16, .inr (.inr (.inr (.inr (va_up (cF_nt o (cN C j)) k (some (o + 6 + e)))))))) = cH f o (sN C j k e) := by
  rw [Nat.add_assoc]
  refine cH_put (72 + 2 * j) (by omega) ?_ (fun e h1 h2 => ?_)
  · rw [c_cell_nt hj, cN_sN]
    have hf : cF_nt o (up2 (cN C) j k e j) = va_up (cF_nt o (cN C j)) k (some (o + 6 + e)) := by
      funext b
      by_cases hb : b = k
      · subst hb
        simp [cF_nt, va_up, up2, hk]
      · simp [cF_nt, va_up, up2, hb]
    rw [hf]
  · unfold c_cell
    simp only [cT_sN, cB_sN, cG_sN, cV_sN, cE_sN, cM_sN, cD_sN, cN_sN]
    by_cases h7 : e < 71
    · rw [if_pos h7, if_pos h7]
    · rw [if_neg h7, if_neg h7]
      by_cases h8 : (e - 71) % 2 = 0
      · rw [if_pos h8, if_pos h8]
      · rw [if_neg h8, if_neg h8, up2_ne _ _ (show (e - 71) / 2 ≠ j by omega)]
theorem uE0 (f : Nat → Option zO) (o : Nat) (C : cS) {i : Nat} (hi : i ≤ 64) (x : Int32) : zm_up (cH f o C) (o + 6 + i) (.inr (2, [.int x, .int (cE C i 1), .int (cE C i 2), .int (cE C i 3), .int (cE C i 4), .int (cE C i 5), .int (cE C i 6), .int (cE C i 7), .int (cE C i 8), .int (cE C i 9), .int (cE C i 10), .int (cE C i 11), .int (cE C i 12), .int (cE C i 13), .int (cE C i 14), .int (cE C i 15), .int (cE C i 16), .int (cE C i 17)])) = cH f o (sE C i 0 x) := sE_put hi 0 x (by simp [cF_ev, up2])
theorem uE1 (f : Nat → Option zO) (o : Nat) (C : cS) {i : Nat} (hi : i ≤ 64) (x : Int32) : zm_up (cH f o C) (o + 6 + i) (.inr (2, [.int (cE C i 0), .int x, .int (cE C i 2), .int (cE C i 3), .int (cE C i 4), .int (cE C i 5), .int (cE C i 6), .int (cE C i 7), .int (cE C i 8), .int (cE C i 9), .int (cE C i 10), .int (cE C i 11), .int (cE C i 12), .int (cE C i 13), .int (cE C i 14), .int (cE C i 15), .int (cE C i 16), .int (cE C i 17)])) = cH f o (sE C i 1 x) := sE_put hi 1 x (by simp [cF_ev, up2])
theorem uE2 (f : Nat → Option zO) (o : Nat) (C : cS) {i : Nat} (hi : i ≤ 64) (x : Int32) : zm_up (cH f o C) (o + 6 + i) (.inr (2, [.int (cE C i 0), .int (cE C i 1), .int x, .int (cE C i 3), .int (cE C i 4), .int (cE C i 5), .int (cE C i 6), .int (cE C i 7), .int (cE C i 8), .int (cE C i 9), .int (cE C i 10), .int (cE C i 11), .int (cE C i 12), .int (cE C i 13), .int (cE C i 14), .int (cE C i 15), .int (cE C i 16), .int (cE C i 17)])) = cH f o (sE C i 2 x) := sE_put hi 2 x (by simp [cF_ev, up2])
theorem uE3 (f : Nat → Option zO) (o : Nat) (C : cS) {i : Nat} (hi : i ≤ 64) (x : Int32) : zm_up (cH f o C) (o + 6 + i) (.inr (2, [.int (cE C i 0), .int (cE C i 1), .int (cE C i 2), .int x, .int (cE C i 4), .int (cE C i 5), .int (cE C i 6), .int (cE C i 7), .int (cE C i 8), .int (cE C i 9), .int (cE C i 10), .int (cE C i 11), .int (cE C i 12), .int (cE C i 13), .int (cE C i 14), .int (cE C i 15), .int (cE C i 16), .int (cE C i 17)])) = cH f o (sE C i 3 x) := sE_put hi 3 x (by simp [cF_ev, up2])
theorem uE4 (f : Nat → Option zO) (o : Nat) (C : cS) {i : Nat} (hi : i ≤ 64) (x : Int32) : zm_up (cH f o C) (o + 6 + i) (.inr (2, [.int (cE C i 0), .int (cE C i 1), .int (cE C i 2), .int (cE C i 3), .int x, .int (cE C i 5), .int (cE C i 6), .int (cE C i 7), .int (cE C i 8), .int (cE C i 9), .int (cE C i 10), .int (cE C i 11), .int (cE C i 12), .int (cE C i 13), .int (cE C i 14), .int (cE C i 15), .int (cE C i 16), .int (cE C i 17)])) = cH f o (sE C i 4 x) := sE_put hi 4 x (by simp [cF_ev, up2])
theorem uE5 (f : Nat → Option zO) (o : Nat) (C : cS) {i : Nat} (hi : i ≤ 64) (x : Int32) : zm_up (cH f o C) (o + 6 + i) (.inr (2, [.int (cE C i 0), .int (cE C i 1), .int (cE C i 2), .int (cE C i 3), .int (cE C i 4), .int x, .int (cE C i 6), .int (cE C i 7), .int (cE C i 8), .int (cE C i 9), .int (cE C i 10), .int (cE C i 11), .int (cE C i 12), .int (cE C i 13), .int (cE C i 14), .int (cE C i 15), .int (cE C i 16), .int (cE C i 17)])) = cH f o (sE C i 5 x) := sE_put hi 5 x (by simp [cF_ev, up2])
theorem uE6 (f : Nat → Option zO) (o : Nat) (C : cS) {i : Nat} (hi : i ≤ 64) (x : Int32) : zm_up (cH f o C) (o + 6 + i) (.inr (2, [.int (cE C i 0), .int (cE C i 1), .int (cE C i 2), .int (cE C i 3), .int (cE C i 4), .int (cE C i 5), .int x, .int (cE C i 7), .int (cE C i 8), .int (cE C i 9), .int (cE C i 10), .int (cE C i 11), .int (cE C i 12), .int (cE C i 13), .int (cE C i 14), .int (cE C i 15), .int (cE C i 16), .int (cE C i 17)])) = cH f o (sE C i 6 x) := sE_put hi 6 x (by simp [cF_ev, up2])
theorem uE7 (f : Nat → Option zO) (o : Nat) (C : cS) {i : Nat} (hi : i ≤ 64) (x : Int32) : zm_up (cH f o C) (o + 6 + i) (.inr (2, [.int (cE C i 0), .int (cE C i 1), .int (cE C i 2), .int (cE C i 3), .int (cE C i 4), .int (cE C i 5), .int (cE C i 6), .int x, .int (cE C i 8), .int (cE C i 9), .int (cE C i 10), .int (cE C i 11), .int (cE C i 12), .int (cE C i 13), .int (cE C i 14), .int (cE C i 15), .int (cE C i 16), .int (cE C i 17)])) = cH f o (sE C i 7 x) := sE_put hi 7 x (by simp [cF_ev, up2])
theorem uE8 (f : Nat → Option zO) (o : Nat) (C : cS) {i : Nat} (hi : i ≤ 64) (x : Int32) : zm_up (cH f o C) (o + 6 + i) (.inr (2, [.int (cE C i 0), .int (cE C i 1), .int (cE C i 2), .int (cE C i 3), .int (cE C i 4), .int (cE C i 5), .int (cE C i 6), .int (cE C i 7), .int x, .int (cE C i 9), .int (cE C i 10), .int (cE C i 11), .int (cE C i 12), .int (cE C i 13), .int (cE C i 14), .int (cE C i 15), .int (cE C i 16), .int (cE C i 17)])) = cH f o (sE C i 8 x) := sE_put hi 8 x (by simp [cF_ev, up2])
theorem uE9 (f : Nat → Option zO) (o : Nat) (C : cS) {i : Nat} (hi : i ≤ 64) (x : Int32) : zm_up (cH f o C) (o + 6 + i) (.inr (2, [.int (cE C i 0), .int (cE C i 1), .int (cE C i 2), .int (cE C i 3), .int (cE C i 4), .int (cE C i 5), .int (cE C i 6), .int (cE C i 7), .int (cE C i 8), .int x, .int (cE C i 10), .int (cE C i 11), .int (cE C i 12), .int (cE C i 13), .int (cE C i 14), .int (cE C i 15), .int (cE C i 16), .int (cE C i 17)])) = cH f o (sE C i 9 x) := sE_put hi 9 x (by simp [cF_ev, up2])
theorem uE10 (f : Nat → Option zO) (o : Nat) (C : cS) {i : Nat} (hi : i ≤ 64) (x : Int32) : zm_up (cH f o C) (o + 6 + i) (.inr (2, [.int (cE C i 0), .int (cE C i 1), .int (cE C i 2), .int (cE C i 3), .int (cE C i 4), .int (cE C i 5), .int (cE C i 6), .int (cE C i 7), .int (cE C i 8), .int (cE C i 9), .int x, .int (cE C i 11), .int (cE C i 12), .int (cE C i 13), .int (cE C i 14), .int (cE C i 15), .int (cE C i 16), .int (cE C i 17)])) = cH f o (sE C i 10 x) := sE_put hi 10 x (by simp [cF_ev, up2])
theorem uE11 (f : Nat → Option zO) (o : Nat) (C : cS) {i : Nat} (hi : i ≤ 64) (x : Int32) : zm_up (cH f o C) (o + 6 + i) (.inr (2, [.int (cE C i 0), .int (cE C i 1), .int (cE C i 2), .int (cE C i 3), .int (cE C i 4), .int (cE C i 5), .int (cE C i 6), .int (cE C i 7), .int (cE C i 8), .int (cE C i 9), .int (cE C i 10), .int x, .int (cE C i 12), .int (cE C i 13), .int (cE C i 14), .int (cE C i 15), .int (cE C i 16), .int (cE C i 17)])) = cH f o (sE C i 11 x) := sE_put hi 11 x (by simp [cF_ev, up2])
theorem uE12 (f : Nat → Option zO) (o : Nat) (C : cS) {i : Nat} (hi : i ≤ 64) (x : Int32) : zm_up (cH f o C) (o + 6 + i) (.inr (2, [.int (cE C i 0), .int (cE C i 1), .int (cE C i 2), .int (cE C i 3), .int (cE C i 4), .int (cE C i 5), .int (cE C i 6), .int (cE C i 7), .int (cE C i 8), .int (cE C i 9), .int (cE C i 10), .int (cE C i 11), .int x, .int (cE C i 13), .int (cE C i 14), .int (cE C i 15), .int (cE C i 16), .int (cE C i 17)])) = cH f o (sE C i 12 x) := sE_put hi 12 x (by simp [cF_ev, up2])
theorem uE13 (f : Nat → Option zO) (o : Nat) (C : cS) {i : Nat} (hi : i ≤ 64) (x : Int32) : zm_up (cH f o C) (o + 6 + i) (.inr (2, [.int (cE C i 0), .int (cE C i 1), .int (cE C i 2), .int (cE C i 3), .int (cE C i 4), .int (cE C i 5), .int (cE C i 6), .int (cE C i 7), .int (cE C i 8), .int (cE C i 9), .int (cE C i 10), .int (cE C i 11), .int (cE C i 12), .int x, .int (cE C i 14), .int (cE C i 15), .int (cE C i 16), .int (cE C i 17)])) = cH f o (sE C i 13 x) := sE_put hi 13 x (by simp [cF_ev, up2])
theorem uE14 (f : Nat → Option zO) (o : Nat) (C : cS) {i : Nat} (hi : i ≤ 64) (x : Int32) : zm_up (cH f o C) (o + 6 + i) (.inr (2, [.int (cE C i 0), .int (cE C i 1), .int (cE C i 2), .int (cE C i 3), .int (cE C i 4), .int (cE C i 5), .int (cE C i 6), .int (cE C i 7), .int (cE C i 8), .int (cE C i 9), .int (cE C i 10), .int (cE C i 11), .int (cE C i 12), .int (cE C i 13), .int x, .int (cE C i 15), .int (cE C i 16), .int (cE C i 17)])) = cH f o (sE C i 14 x) := sE_put hi 14 x (by simp [cF_ev, up2])
theorem uE15 (f : Nat → Option zO) (o : Nat) (C : cS) {i : Nat} (hi : i ≤ 64) (x : Int32) : zm_up (cH f o C) (o + 6 + i) (.inr (2, [.int (cE C i 0), .int (cE C i 1), .int (cE C i 2), .int (cE C i 3), .int (cE C i 4), .int (cE C i 5), .int (cE C i 6), .int (cE C i 7), .int (cE C i 8), .int (cE C i 9), .int (cE C i 10), .int (cE C i 11), .int (cE C i 12), .int (cE C i 13), .int (cE C i 14), .int x, .int (cE C i 16), .int (cE C i 17)])) = cH f o (sE C i 15 x) := sE_put hi 15 x (by simp [cF_ev, up2])
theorem uE16 (f : Nat → Option zO) (o : Nat) (C : cS) {i : Nat} (hi : i ≤ 64) (x : Int32) : zm_up (cH f o C) (o + 6 + i) (.inr (2, [.int (cE C i 0), .int (cE C i 1), .int (cE C i 2), .int (cE C i 3), .int (cE C i 4), .int (cE C i 5), .int (cE C i 6), .int (cE C i 7), .int (cE C i 8), .int (cE C i 9), .int (cE C i 10), .int (cE C i 11), .int (cE C i 12), .int (cE C i 13), .int (cE C i 14), .int (cE C i 15), .int x, .int (cE C i 17)])) = cH f o (sE C i 16 x) := sE_put hi 16 x (by simp [cF_ev, up2])
theorem uE17 (f : Nat → Option zO) (o : Nat) (C : cS) {i : Nat} (hi : i ≤ 64) (x : Int32) : zm_up (cH f o C) (o + 6 + i) (.inr (2, [.int (cE C i 0), .int (cE C i 1), .int (cE C i 2), .int (cE C i 3), .int (cE C i 4), .int (cE C i 5), .int (cE C i 6), .int (cE C i 7), .int (cE C i 8), .int (cE C i 9), .int (cE C i 10), .int (cE C i 11), .int (cE C i 12), .int (cE C i 13), .int (cE C i 14), .int (cE C i 15), .int (cE C i 16), .int x])) = cH f o (sE C i 17 x) := sE_put hi 17 x (by simp [cF_ev, up2])
theorem uM1 (f : Nat → Option zO) (o : Nat) (C : cS) {j : Nat} (hj : j < 33) (x : Int32) : zm_up (cH f o C) (o + 71 + 2 * j) (.inr (1, [.ref (o + 72 + 2 * j), .int x, .int (cM C j 2), .int (cM C j 3), .int (cM C j 4), .int (cM C j 5), .int (cM C j 6), .int (cM C j 7), .long (cD C j)])) = cH f o (sM C j 1 x) := sM_put hj 1 x (by simp [cF_bm, up2])
theorem uM2 (f : Nat → Option zO) (o : Nat) (C : cS) {j : Nat} (hj : j < 33) (x : Int32) : zm_up (cH f o C) (o + 71 + 2 * j) (.inr (1, [.ref (o + 72 + 2 * j), .int (cM C j 1), .int x, .int (cM C j 3), .int (cM C j 4), .int (cM C j 5), .int (cM C j 6), .int (cM C j 7), .long (cD C j)])) = cH f o (sM C j 2 x) := sM_put hj 2 x (by simp [cF_bm, up2])
theorem uM3 (f : Nat → Option zO) (o : Nat) (C : cS) {j : Nat} (hj : j < 33) (x : Int32) : zm_up (cH f o C) (o + 71 + 2 * j) (.inr (1, [.ref (o + 72 + 2 * j), .int (cM C j 1), .int (cM C j 2), .int x, .int (cM C j 4), .int (cM C j 5), .int (cM C j 6), .int (cM C j 7), .long (cD C j)])) = cH f o (sM C j 3 x) := sM_put hj 3 x (by simp [cF_bm, up2])
theorem uM4 (f : Nat → Option zO) (o : Nat) (C : cS) {j : Nat} (hj : j < 33) (x : Int32) : zm_up (cH f o C) (o + 71 + 2 * j) (.inr (1, [.ref (o + 72 + 2 * j), .int (cM C j 1), .int (cM C j 2), .int (cM C j 3), .int x, .int (cM C j 5), .int (cM C j 6), .int (cM C j 7), .long (cD C j)])) = cH f o (sM C j 4 x) := sM_put hj 4 x (by simp [cF_bm, up2])
theorem uM5 (f : Nat → Option zO) (o : Nat) (C : cS) {j : Nat} (hj : j < 33) (x : Int32) : zm_up (cH f o C) (o + 71 + 2 * j) (.inr (1, [.ref (o + 72 + 2 * j), .int (cM C j 1), .int (cM C j 2), .int (cM C j 3), .int (cM C j 4), .int x, .int (cM C j 6), .int (cM C j 7), .long (cD C j)])) = cH f o (sM C j 5 x) := sM_put hj 5 x (by simp [cF_bm, up2])
theorem uM6 (f : Nat → Option zO) (o : Nat) (C : cS) {j : Nat} (hj : j < 33) (x : Int32) : zm_up (cH f o C) (o + 71 + 2 * j) (.inr (1, [.ref (o + 72 + 2 * j), .int (cM C j 1), .int (cM C j 2), .int (cM C j 3), .int (cM C j 4), .int (cM C j 5), .int x, .int (cM C j 7), .long (cD C j)])) = cH f o (sM C j 6 x) := sM_put hj 6 x (by simp [cF_bm, up2])
theorem uM7 (f : Nat → Option zO) (o : Nat) (C : cS) {j : Nat} (hj : j < 33) (x : Int32) : zm_up (cH f o C) (o + 71 + 2 * j) (.inr (1, [.ref (o + 72 + 2 * j), .int (cM C j 1), .int (cM C j 2), .int (cM C j 3), .int (cM C j 4), .int (cM C j 5), .int (cM C j 6), .int x, .long (cD C j)])) = cH f o (sM C j 7 x) := sM_put hj 7 x (by simp [cF_bm, up2])
theorem uD (f : Nat → Option zO) (o : Nat) (C : cS) {j : Nat} (hj : j < 33) (x : Int64) : zm_up (cH f o C) (o + 71 + 2 * j) (.inr (1, [.ref (o + 72 + 2 * j), .int (cM C j 1), .int (cM C j 2), .int (cM C j 3), .int (cM C j 4), .int (cM C j 5), .int (cM C j 6), .int (cM C j 7), .long x])) = cH f o (sD C j x) := sD_put hj x rfl
abbrev mS : Type := (Nat → Int32) × (Nat → Nat → Int32) × (Nat → Int64)
def mI (M : mS) : Nat → Int32 := M.1
def mA (M : mS) : Nat → Nat → Int32 := M.2.1
def mD (M : mS) : Nat → Int64 := M.2.2
def tI (M : mS) (k : Nat) (x : Int32) : mS := (upd M.1 k x, M.2)
def tA (M : mS) (k i : Nat) (x : Int32) : mS := (M.1, up2 M.2.1 k i x, M.2.2)
def tD (M : mS) (i : Nat) (x : Int64) : mS := (M.1, M.2.1, vp_updL M.2.2 i x)
theorem mI_tI (M : mS) (k : Nat) (x : Int32) : mI (tI M k x) = upd (mI M) k x := rfl
theorem mA_tI (M : mS) (k : Nat) (x : Int32) : mA (tI M k x) = mA M := rfl
theorem mD_tI (M : mS) (k : Nat) (x : Int32) : mD (tI M k x) = mD M := rfl
theorem mI_tA (M : mS) (k i : Nat) (x : Int32) : mI (tA M k i x) = mI M := rfl
theorem mA_tA (M : mS) (k i : Nat) (x : Int32) : mA (tA M k i x) = up2 (mA M) k i x := rfl
theorem mD_tA (M : mS) (k i : Nat) (x : Int32) : mD (tA M k i x) = mD M := rfl
theorem mI_tD (M : mS) (i : Nat) (x : Int64) : mI (tD M i x) = mI M := rfl
theorem mA_tD (M : mS) (i : Nat) (x : Int64) : mA (tD M i x) = mA M := rfl
theorem mD_tD (M : mS) (i : Nat) (x : Int64) : mD (tD M i x) = vp_updL (mD M) i x := rfl
def m_cell (q : Nat) (M : mS) (d : Nat) : zO :=
  if d = 0 then .inr (4, [.int (mI M 0), .int (mI M 1), .int (mI M 2), .int (mI M 3), .ref (q + 1), .int (mI M 5), .ref (q + 2), .ref (q + 3), .ref (q + 4), .ref (q + 5), .ref (q + 6), .ref (q + 7), .ref (q + 8), .ref (q + 9), .ref (q + 10), .ref (q + 11), .ref (q + 12), .int (mI M 17), .int (mI M 18), .int (mI M 19), .ref (q + 13), .ref (q + 14), .ref (q + 15), .ref (q + 16), .ref (q + 17), .ref (q + 18), .ref (q + 19), .ref (q + 20), .ref (q + 21)])
  else if d = 1 then .inl (0, 17, .inl (mA M 4))
  else if d = 2 then .inl (0, 64, .inl (mA M 6))
  else if d = 3 then .inl (0, 64, .inl (mA M 7))
  else if d = 4 then .inl (0, 64, .inl (mA M 8))
  else if d = 5 then .inl (0, 64, .inl (mA M 9))
  else if d = 6 then .inl (0, 64, .inl (mA M 10))
  else if d = 7 then .inl (0, 64, .inl (mA M 11))
  else if d = 8 then .inl (0, 64, .inl (mA M 12))
  else if d = 9 then .inl (0, 64, .inl (mA M 13))
  else if d = 10 then .inl (0, 256, .inl (mA M 14))
  else if d = 11 then .inl (0, 64, .inl (mA M 15))
  else if d = 12 then .inl (0, 2, .inl (mA M 16))
  else if d = 13 then .inl (0, 64, .inl (mA M 20))
  else if d = 14 then .inl (0, 1024, .inl (mA M 21))
  else if d = 15 then .inl (0, 64, .inl (mA M 22))
  else if d = 16 then .inl (0, 64, .inl (mA M 23))
  else if d = 17 then .inl (0, 64, .inl (mA M 24))
  else if d = 18 then .inl (0, 64, .inl (mA M 25))
  else if d = 19 then .inl (0, 64, .inl (mA M 26))
  else if d = 20 then .inl (0, 64, .inl (mA M 27))
  else .inl (1, 64, .inr (.inl (mD M)))
def mH (f : Nat → Option zO) (q : Nat) (M : mS) : Nat → Option zO := fun a => if q ≤ a ∧ a < q + 22 then some (m_cell q M (a - q)) else f a
theorem mH_at {f : Nat → Option zO} {q : Nat} {M : mS} (d : Nat) (hd : d < 22) : mH f q M (q + d) = some (m_cell q M d) := by
  unfold mH
  rw [if_pos ⟨by omega, by omega⟩, show q + d - q = d by omega]
theorem mH_put {f : Nat → Option zO} {q : Nat} {M M' : mS} (d : Nat) (hd : d < 22) {x : zO} (hx : m_cell q M' d = x) (ho : ∀ e, e < 22 → e ≠ d → m_cell q M' e = m_cell q M e) : zm_up (mH f q M) (q + d) x = mH f q M' := by
  funext a
  by_cases ha : a = q + d
  · subst ha
    rw [zm_up_self, mH_at d hd, hx]
  · rw [zm_up_ne _ _ ha]
    unfold mH
    by_cases hr : q ≤ a ∧ a < q + 22
    · rw [if_pos hr, if_pos hr, ho (a - q) (by omega) (by omega)]
    · rw [if_neg hr, if_neg hr]
theorem mH_0 (f : Nat → Option zO) (q : Nat) (M : mS) : mH f q M q = some (.inr (4, [.int (mI M 0), .int (mI M 1), .int (mI M 2), .int (mI M 3), .ref (q + 1), .int (mI M 5), .ref (q + 2), .ref (q + 3), .ref (q + 4), .ref (q + 5), .ref (q + 6), .ref (q + 7), .ref (q + 8), .ref (q + 9), .ref (q + 10), .ref (q + 11), .ref (q + 12), .int (mI M 17), .int (mI M 18), .int (mI M 19), .ref (q + 13), .ref (q + 14), .ref (q + 15), .ref (q + 16), .ref (q + 17), .ref (q + 18), .ref (q + 19), .ref (q + 20), .ref (q + 21)])) := mH_at 0 (by decide)
theorem mH_1 (f : Nat → Option zO) (q : Nat) (M : mS) : mH f q M (q + 1) = some (.inl (0, 17, .inl (mA M 4))) := mH_at 1 (by decide)
theorem mH_2 (f : Nat → Option zO) (q : Nat) (M : mS) : mH f q M (q + 2) = some (.inl (0, 64, .inl (mA M 6))) := mH_at 2 (by decide)
theorem mH_3 (f : Nat → Option zO) (q : Nat) (M : mS) : mH f q M (q + 3) = some (.inl (0, 64, .inl (mA M 7))) := mH_at 3 (by decide)
theorem mH_4 (f : Nat → Option zO) (q : Nat) (M : mS) : mH f q M (q + 4) = some (.inl (0, 64, .inl (mA M 8))) := mH_at 4 (by decide)
theorem mH_5 (f : Nat → Option zO) (q : Nat) (M : mS) : mH f q M (q + 5) = some (.inl (0, 64, .inl (mA M 9))) := mH_at 5 (by decide)
theorem mH_6 (f : Nat → Option zO) (q : Nat) (M : mS) : mH f q M (q + 6) = some (.inl (0, 64, .inl (mA M 10))) := mH_at 6 (by decide)
theorem mH_7 (f : Nat → Option zO) (q : Nat) (M : mS) : mH f q M (q + 7) = some (.inl (0, 64, .inl (mA M 11))) := mH_at 7 (by decide)
theorem mH_8 (f : Nat → Option zO) (q : Nat) (M : mS) : mH f q M (q + 8) = some (.inl (0, 64, .inl (mA M 12))) := mH_at 8 (by decide)
theorem mH_9 (f : Nat → Option zO) (q : Nat) (M : mS) : mH f q M (q + 9) = some (.inl (0, 64, .inl (mA M 13))) := mH_at 9 (by decide)
theorem mH_10 (f : Nat → Option zO) (q : Nat) (M : mS) : mH f q M (q + 10) = some (.inl (0, 256, .inl (mA M 14))) := mH_at 10 (by decide)
theorem mH_11 (f : Nat → Option zO) (q : Nat) (M : mS) : mH f q M (q + 11) = some (.inl (0, 64, .inl (mA M 15))) := mH_at 11 (by decide)
theorem mH_12 (f : Nat → Option zO) (q : Nat) (M : mS) : mH f q M (q + 12) = some (.inl (0, 2, .inl (mA M 16))) := mH_at 12 (by decide)
theorem mH_13 (f : Nat → Option zO) (q : Nat) (M : mS) : mH f q M (q + 13) = some (.inl (0, 64, .inl (mA M 20))) := mH_at 13 (by decide)
theorem mH_14 (f : Nat → Option zO) (q : Nat) (M : mS) : mH f q M (q + 14) = some (.inl (0, 1024, .inl (mA M 21))) := mH_at 14 (by decide)
theorem mH_15 (f : Nat → Option zO) (q : Nat) (M : mS) : mH f q M (q + 15) = some (.inl (0, 64, .inl (mA M 22))) := mH_at 15 (by decide)
theorem mH_16 (f : Nat → Option zO) (q : Nat) (M : mS) : mH f q M (q + 16) = some (.inl (0, 64, .inl (mA M 23))) := mH_at 16 (by decide)
theorem mH_17 (f : Nat → Option zO) (q : Nat) (M : mS) : mH f q M (q + 17) = some (.inl (0, 64, .inl (mA M 24))) := mH_at 17 (by decide)
theorem mH_18 (f : Nat → Option zO) (q : Nat) (M : mS) : mH f q M (q + 18) = some (.inl (0, 64, .inl (mA M 25))) := mH_at 18 (by decide)
theorem mH_19 (f : Nat → Option zO) (q : Nat) (M : mS) : mH f q M (q + 19) = some (.inl (0, 64, .inl (mA M 26))) := mH_at 19 (by decide)
theorem mH_20 (f : Nat → Option zO) (q : Nat) (M : mS) : mH f q M (q + 20) = some (.inl (0, 64, .inl (mA M 27))) := mH_at 20 (by decide)
theorem mH_21 (f : Nat → Option zO) (q : Nat) (M : mS) : mH f q M (q + 21) = some (.inl (1, 64, .inr (.inl (mD M)))) := mH_at 21 (by decide)
theorem vI0 (f : Nat → Option zO) (q : Nat) (M : mS) (x : Int32) : zm_up (mH f q M) q (.inr (4, [.int x, .int (mI M 1), .int (mI M 2), .int (mI M 3), .ref (q + 1), .int (mI M 5), .ref (q + 2), .ref (q + 3), .ref (q + 4), .ref (q + 5), .ref (q + 6), .ref (q + 7), .ref (q + 8), .ref (q + 9), .ref (q + 10), .ref (q + 11), .ref (q + 12), .int (mI M 17), .int (mI M 18), .int (mI M 19), .ref (q + 13), .ref (q + 14), .ref (q + 15), .ref (q + 16), .ref (q + 17), .ref (q + 18), .ref (q + 19), .ref (q + 20), .ref (q + 21)])) = mH f q (tI M 0 x) := mH_put 0 (by decide) rfl (fun e h1 h2 => by unfold m_cell; rw [if_neg h2, if_neg h2]; rfl)
theorem vI1 (f : Nat → Option zO) (q : Nat) (M : mS) (x : Int32) : zm_up (mH f q M) q (.inr (4, [.int (mI M 0), .int x, .int (mI M 2), .int (mI M 3), .ref (q + 1), .int (mI M 5), .ref (q + 2), .ref (q + 3), .ref (q + 4), .ref (q + 5), .ref (q + 6), .ref (q + 7), .ref (q + 8), .ref (q + 9), .ref (q + 10), .ref (q + 11), .ref (q + 12), .int (mI M 17), .int (mI M 18), .int (mI M 19), .ref (q + 13), .ref (q + 14), .ref (q + 15), .ref (q + 16), .ref (q + 17), .ref (q + 18), .ref (q + 19), .ref (q + 20), .ref (q + 21)])) = mH f q (tI M 1 x) := mH_put 0 (by decide) rfl (fun e h1 h2 => by unfold m_cell; rw [if_neg h2, if_neg h2]; rfl)
theorem vI2 (f : Nat → Option zO) (q : Nat) (M : mS) (x : Int32) : zm_up (mH f q M) q (.inr (4, [.int (mI M 0), .int (mI M 1), .int x, .int (mI M 3), .ref (q + 1), .int (mI M 5), .ref (q + 2), .ref (q + 3), .ref (q + 4), .ref (q + 5), .ref (q + 6), .ref (q + 7), .ref (q + 8), .ref (q + 9), .ref (q + 10), .ref (q + 11), .ref (q + 12), .int (mI M 17), .int (mI M 18), .int (mI M 19), .ref (q + 13), .ref (q + 14), .ref (q + 15), .ref (q + 16), .ref (q + 17), .ref (q + 18), .ref (q + 19), .ref (q + 20), .ref (q + 21)])) = mH f q (tI M 2 x) := mH_put 0 (by decide) rfl (fun e h1 h2 => by unfold m_cell; rw [if_neg h2, if_neg h2]; rfl)
theorem vI3 (f : Nat → Option zO) (q : Nat) (M : mS) (x : Int32) : zm_up (mH f q M) q (.inr (4, [.int (mI M 0), .int (mI M 1), .int (mI M 2), .int x, .ref (q + 1), .int (mI M 5), .ref (q + 2), .ref (q + 3), .ref (q + 4), .ref (q + 5), .ref (q + 6), .ref (q + 7), .ref (q + 8), .ref (q + 9), .ref (q + 10), .ref (q + 11), .ref (q + 12), .int (mI M 17), .int (mI M 18), .int (mI M 19), .ref (q + 13), .ref (q + 14), .ref (q + 15), .ref (q + 16), .ref (q + 17), .ref (q + 18), .ref (q + 19), .ref (q + 20), .ref (q + 21)])) = mH f q (tI M 3 x) := mH_put 0 (by decide) rfl (fun e h1 h2 => by unfold m_cell; rw [if_neg h2, if_neg h2]; rfl)
theorem vI5 (f : Nat → Option zO) (q : Nat) (M : mS) (x : Int32) : zm_up (mH f q M) q (.inr (4, [.int (mI M 0), .int (mI M 1), .int (mI M 2), .int (mI M 3), .ref (q + 1), .int x, .ref (q + 2), .ref (q + 3), .ref (q + 4), .ref (q + 5), .ref (q + 6), .ref (q + 7), .ref (q + 8), .ref (q + 9), .ref (q + 10), .ref (q + 11), .ref (q + 12), .int (mI M 17), .int (mI M 18), .int (mI M 19), .ref (q + 13), .ref (q + 14), .ref (q + 15), .ref (q + 16), .ref (q + 17), .ref (q + 18), .ref (q + 19), .ref (q + 20), .ref (q + 21)])) = mH f q (tI M 5 x) := mH_put 0 (by decide) rfl (fun e h1 h2 => by unfold m_cell; rw [if_neg h2, if_neg h2]; rfl)
theorem vI17 (f : Nat → Option zO) (q : Nat) (M : mS) (x : Int32) : zm_up (mH f q M) q (.inr (4, [.int (mI M 0), .int (mI M 1), .int (mI M 2), .int (mI M 3), .ref (q + 1), .int (mI M 5), .ref (q + 2), .ref (q + 3), .ref (q + 4), .ref (q + 5), .ref (q + 6), .ref (q + 7), .ref (q + 8), .ref (q + 9), .ref (q + 10), .ref (q + 11), .ref (q + 12), .int x, .int (mI M 18), .int (mI M 19), .ref (q + 13), .ref (q + 14), .ref (q + 15), .ref (q + 16), .ref (q + 17), .ref (q + 18), .ref (q + 19), .ref (q + 20), .ref (q + 21)])) = mH f q (tI M 17 x) := mH_put 0 (by decide) rfl (fun e h1 h2 => by unfold m_cell; rw [if_neg h2, if_neg h2]; rfl)
theorem vI18 (f : Nat → Option zO) (q : Nat) (M : mS) (x : Int32) : zm_up (mH f q M) q (.inr (4, [.int (mI M 0), .int (mI M 1), .int (mI M 2), .int (mI M 3), .ref (q + 1), .int (mI M 5), .ref (q + 2), .ref (q + 3), .ref (q + 4), .ref (q + 5), .ref (q + 6), .ref (q + 7), .ref (q + 8), .ref (q + 9), .ref (q + 10), .ref (q + 11), .ref (q + 12), .int (mI M 17), .int x, .int (mI M 19), .ref (q + 13), .ref (q + 14), .ref (q + 15), .ref (q + 16), .ref (q + 17), .ref (q + 18), .ref (q + 19), .ref (q + 20), .ref (q + 21)])) = mH f q (tI M 18 x) := mH_put 0 (by decide) rfl (fun e h1 h2 => by unfold m_cell; rw [if_neg h2, if_neg h2]; rfl)
theorem vI19 (f : Nat → Option zO) (q : Nat) (M : mS) (x : Int32) : zm_up (mH f q M) q (.inr (4, [.int (mI M 0), .int (mI M 1), .int (mI M 2), .int (mI M 3), .ref (q + 1), .int (mI M 5), .ref (q + 2), .ref (q + 3), .ref (q + 4), .ref (q + 5), .ref (q + 6), .ref (q + 7), .ref (q + 8), .ref (q + 9), .ref (q + 10), .ref (q + 11), .ref (q + 12), .int (mI M 17), .int (mI M 18), .int x, .ref (q + 13), .ref (q + 14), .ref (q + 15), .ref (q + 16), .ref (q + 17), .ref (q + 18), .ref (q + 19), .ref (q + 20), .ref (q + 21)])) = mH f q (tI M 19 x) := mH_put 0 (by decide) rfl (fun e h1 h2 => by unfold m_cell; rw [if_neg h2, if_neg h2]; rfl)
theorem tA_at (M : mS) (k i : Nat) (x : Int32) : mA (tA M k i x) k = upd (mA M k) i x := by
  funext b
  by_cases h : b = i <;> simp [mA_tA, up2, upd, h]
theorem tA_ne (M : mS) {k k' : Nat} (i : Nat) (x : Int32) (h : k' ≠ k) : mA (tA M k i x) k' = mA M k' := by
  rw [mA_tA]
  exact up2_ne _ _ h
theorem vA4 (f : Nat → Option zO) (q : Nat) (M : mS) (i : Nat) (x : Int32) : zm_up (mH f q M) (q + 1) (.inl (0, 17, .inl (upd (mA M 4) i x))) = mH f q (tA M 4 i x) := by
  refine mH_put 1 (by decide) (congrArg (fun z => Sum.inl (0, 17, Sum.inl z)) (tA_at M 4 i x)) (fun e h1 h2 => ?_)
  unfold m_cell
  rw [tA_ne M (k := 4) (k' := 6) i x (by decide), tA_ne M (k := 4) (k' := 7) i x (by decide), tA_ne M (k := 4) (k' := 8) i x (by decide), tA_ne M (k := 4) (k' := 9) i x (by decide), tA_ne M (k := 4) (k' := 10) i x (by decide), tA_ne M (k := 4) (k' := 11) i x (by decide), tA_ne M (k := 4) (k' := 12) i x (by decide), tA_ne M (k := 4) (k' := 13) i x (by decide), tA_ne M (k := 4) (k' := 14) i x (by decide), tA_ne M (k := 4) (k' := 15) i x (by decide), tA_ne M (k := 4) (k' := 16) i x (by decide), tA_ne M (k := 4) (k' := 20) i x (by decide), tA_ne M (k := 4) (k' := 21) i x (by decide), tA_ne M (k := 4) (k' := 22) i x (by decide), tA_ne M (k := 4) (k' := 23) i x (by decide), tA_ne M (k := 4) (k' := 24) i x (by decide), tA_ne M (k := 4) (k' := 25) i x (by decide), tA_ne M (k := 4) (k' := 26) i x (by decide), tA_ne M (k := 4) (k' := 27) i x (by decide)]
  rw [if_neg (c := e = 1) h2, if_neg (c := e = 1) h2]
  rfl
theorem vA6 (f : Nat → Option zO) (q : Nat) (M : mS) (i : Nat) (x : Int32) : zm_up (mH f q M) (q + 2) (.inl (0, 64, .inl (upd (mA M 6) i x))) = mH f q (tA M 6 i x) := by
  refine mH_put 2 (by decide) (congrArg (fun z => Sum.inl (0, 64, Sum.inl z)) (tA_at M 6 i x)) (fun e h1 h2 => ?_)
  unfold m_cell
  rw [tA_ne M (k := 6) (k' := 4) i x (by decide), tA_ne M (k := 6) (k' := 7) i x (by decide), tA_ne M (k := 6) (k' := 8) i x (by decide), tA_ne M (k := 6) (k' := 9) i x (by decide), tA_ne M (k := 6) (k' := 10) i x (by decide), tA_ne M (k := 6) (k' := 11) i x (by decide), tA_ne M (k := 6) (k' := 12) i x (by decide), tA_ne M (k := 6) (k' := 13) i x (by decide), tA_ne M (k := 6) (k' := 14) i x (by decide), tA_ne M (k := 6) (k' := 15) i x (by decide), tA_ne M (k := 6) (k' := 16) i x (by decide), tA_ne M (k := 6) (k' := 20) i x (by decide), tA_ne M (k := 6) (k' := 21) i x (by decide), tA_ne M (k := 6) (k' := 22) i x (by decide), tA_ne M (k := 6) (k' := 23) i x (by decide), tA_ne M (k := 6) (k' := 24) i x (by decide), tA_ne M (k := 6) (k' := 25) i x (by decide), tA_ne M (k := 6) (k' := 26) i x (by decide), tA_ne M (k := 6) (k' := 27) i x (by decide)]
  rw [if_neg (c := e = 2) h2, if_neg (c := e = 2) h2]
  rfl
theorem vA7 (f : Nat → Option zO) (q : Nat) (M : mS) (i : Nat) (x : Int32) : zm_up (mH f q M) (q + 3) (.inl (0, 64, .inl (upd (mA M 7) i x))) = mH f q (tA M 7 i x) := by
  refine mH_put 3 (by decide) (congrArg (fun z => Sum.inl (0, 64, Sum.inl z)) (tA_at M 7 i x)) (fun e h1 h2 => ?_)
  unfold m_cell
  rw [tA_ne M (k := 7) (k' := 4) i x (by decide), tA_ne M (k := 7) (k' := 6) i x (by decide), tA_ne M (k := 7) (k' := 8) i x (by decide), tA_ne M (k := 7) (k' := 9) i x (by decide), tA_ne M (k := 7) (k' := 10) i x (by decide), tA_ne M (k := 7) (k' := 11) i x (by decide), tA_ne M (k := 7) (k' := 12) i x (by decide), tA_ne M (k := 7) (k' := 13) i x (by decide), tA_ne M (k := 7) (k' := 14) i x (by decide), tA_ne M (k := 7) (k' := 15) i x (by decide), tA_ne M (k := 7) (k' := 16) i x (by decide), tA_ne M (k := 7) (k' := 20) i x (by decide), tA_ne M (k := 7) (k' := 21) i x (by decide), tA_ne M (k := 7) (k' := 22) i x (by decide), tA_ne M (k := 7) (k' := 23) i x (by decide), tA_ne M (k := 7) (k' := 24) i x (by decide), tA_ne M (k := 7) (k' := 25) i x (by decide), tA_ne M (k := 7) (k' := 26) i x (by decide), tA_ne M (k := 7) (k' := 27) i x (by decide)]
  rw [if_neg (c := e = 3) h2, if_neg (c := e = 3) h2]
  rfl
theorem vA8 (f : Nat → Option zO) (q : Nat) (M : mS) (i : Nat) (x : Int32) : zm_up (mH f q M) (q + 4) (.inl (0, 64, .inl (upd (mA M 8) i x))) = mH f q (tA M 8 i x) := by
  refine mH_put 4 (by decide) (congrArg (fun z => Sum.inl (0, 64, Sum.inl z)) (tA_at M 8 i x)) (fun e h1 h2 => ?_)
  unfold m_cell
  rw [tA_ne M (k := 8) (k' := 4) i x (by decide), tA_ne M (k := 8) (k' := 6) i x (by decide), tA_ne M (k := 8) (k' := 7) i x (by decide), tA_ne M (k := 8) (k' := 9) i x (by decide), tA_ne M (k := 8) (k' := 10) i x (by decide), tA_ne M (k := 8) (k' := 11) i x (by decide), tA_ne M (k := 8) (k' := 12) i x (by decide), tA_ne M (k := 8) (k' := 13) i x (by decide), tA_ne M (k := 8) (k' := 14) i x (by decide), tA_ne M (k := 8) (k' := 15) i x (by decide), tA_ne M (k := 8) (k' := 16) i x (by decide), tA_ne M (k := 8) (k' := 20) i x (by decide), tA_ne M (k := 8) (k' := 21) i x (by decide), tA_ne M (k := 8) (k' := 22) i x (by decide), tA_ne M (k := 8) (k' := 23) i x (by decide), tA_ne M (k := 8) (k' := 24) i x (by decide), tA_ne M (k := 8) (k' := 25) i x (by decide), tA_ne M (k := 8) (k' := 26) i x (by decide), tA_ne M (k := 8) (k' := 27) i x (by decide)]
  rw [if_neg (c := e = 4) h2, if_neg (c := e = 4) h2]
  rfl
theorem vA9 (f : Nat → Option zO) (q : Nat) (M : mS) (i : Nat) (x : Int32) : zm_up (mH f q M) (q + 5) (.inl (0, 64, .inl (upd (mA M 9) i x))) = mH f q (tA M 9 i x) := by
  refine mH_put 5 (by decide) (congrArg (fun z => Sum.inl (0, 64, Sum.inl z)) (tA_at M 9 i x)) (fun e h1 h2 => ?_)
  unfold m_cell
  rw [tA_ne M (k := 9) (k' := 4) i x (by decide), tA_ne M (k := 9) (k' := 6) i x (by decide), tA_ne M (k := 9) (k' := 7) i x (by decide), tA_ne M (k := 9) (k' := 8) i x (by decide), tA_ne M (k := 9) (k' := 10) i x (by decide), tA_ne M (k := 9) (k' := 11) i x (by decide), tA_ne M (k := 9) (k' := 12) i x (by decide), tA_ne M (k := 9) (k' := 13) i x (by decide), tA_ne M (k := 9) (k' := 14) i x (by decide), tA_ne M (k := 9) (k' := 15) i x (by decide), tA_ne M (k := 9) (k' := 16) i x (by decide), tA_ne M (k := 9) (k' := 20) i x (by decide), tA_ne M (k := 9) (k' := 21) i x (by decide), tA_ne M (k := 9) (k' := 22) i x (by decide), tA_ne M (k := 9) (k' := 23) i x (by decide), tA_ne M (k := 9) (k' := 24) i x (by decide), tA_ne M (k := 9) (k' := 25) i x (by decide), tA_ne M (k := 9) (k' := 26) i x (by decide), tA_ne M (k := 9) (k' := 27) i x (by decide)]
  rw [if_neg (c := e = 5) h2, if_neg (c := e = 5) h2]
  rfl
theorem vA10 (f : Nat → Option zO) (q : Nat) (M : mS) (i : Nat) (x : Int32) : zm_up (mH f q M) (q + 6) (.inl (0, 64, .inl (upd (mA M 10) i x))) = mH f q (tA M 10 i x) := by
  refine mH_put 6 (by decide) (congrArg (fun z => Sum.inl (0, 64, Sum.inl z)) (tA_at M 10 i x)) (fun e h1 h2 => ?_)
  unfold m_cell
  rw [tA_ne M (k := 10) (k' := 4) i x (by decide), tA_ne M (k := 10) (k' := 6) i x (by decide), tA_ne M (k := 10) (k' := 7) i x (by decide), tA_ne M (k := 10) (k' := 8) i x (by decide), tA_ne M (k := 10) (k' := 9) i x (by decide), tA_ne M (k := 10) (k' := 11) i x (by decide), tA_ne M (k := 10) (k' := 12) i x (by decide), tA_ne M (k := 10) (k' := 13) i x (by decide), tA_ne M (k := 10) (k' := 14) i x (by decide), tA_ne M (k := 10) (k' := 15) i x (by decide), tA_ne M (k := 10) (k' := 16) i x (by decide), tA_ne M (k := 10) (k' := 20) i x (by decide), tA_ne M (k := 10) (k' := 21) i x (by decide), tA_ne M (k := 10) (k' := 22) i x (by decide), tA_ne M (k := 10) (k' := 23) i x (by decide), tA_ne M (k := 10) (k' := 24) i x (by decide), tA_ne M (k := 10) (k' := 25) i x (by decide), tA_ne M (k := 10) (k' := 26) i x (by decide), tA_ne M (k := 10) (k' := 27) i x (by decide)]
  rw [if_neg (c := e = 6) h2, if_neg (c := e = 6) h2]
  rfl
theorem vA11 (f : Nat → Option zO) (q : Nat) (M : mS) (i : Nat) (x : Int32) : zm_up (mH f q M) (q + 7) (.inl (0, 64, .inl (upd (mA M 11) i x))) = mH f q (tA M 11 i x) := by
  refine mH_put 7 (by decide) (congrArg (fun z => Sum.inl (0, 64, Sum.inl z)) (tA_at M 11 i x)) (fun e h1 h2 => ?_)
  unfold m_cell
  rw [tA_ne M (k := 11) (k' := 4) i x (by decide), tA_ne M (k := 11) (k' := 6) i x (by decide), tA_ne M (k := 11) (k' := 7) i x (by decide), tA_ne M (k := 11) (k' := 8) i x (by decide), tA_ne M (k := 11) (k' := 9) i x (by decide), tA_ne M (k := 11) (k' := 10) i x (by decide), tA_ne M (k := 11) (k' := 12) i x (by decide), tA_ne M (k := 11) (k' := 13) i x (by decide), tA_ne M (k := 11) (k' := 14) i x (by decide), tA_ne M (k := 11) (k' := 15) i x (by decide), tA_ne M (k := 11) (k' := 16) i x (by decide), tA_ne M (k := 11) (k' := 20) i x (by decide), tA_ne M (k := 11) (k' := 21) i x (by decide), tA_ne M (k := 11) (k' := 22) i x (by decide), tA_ne M (k := 11) (k' := 23) i x (by decide), tA_ne M (k := 11) (k' := 24) i x (by decide), tA_ne M (k := 11) (k' := 25) i x (by decide), tA_ne M (k := 11) (k' := 26) i x (by decide), tA_ne M (k := 11) (k' := 27) i x (by decide)]
  rw [if_neg (c := e = 7) h2, if_neg (c := e = 7) h2]
  rfl
theorem vA12 (f : Nat → Option zO) (q : Nat) (M : mS) (i : Nat) (x : Int32) : zm_up (mH f q M) (q + 8) (.inl (0, 64, .inl (upd (mA M 12) i x))) = mH f q (tA M 12 i x) := by
  refine mH_put 8 (by decide) (congrArg (fun z => Sum.inl (0, 64, Sum.inl z)) (tA_at M 12 i x)) (fun e h1 h2 => ?_)
  unfold m_cell
  rw [tA_ne M (k := 12) (k' := 4) i x (by decide), tA_ne M (k := 12) (k' := 6) i x (by decide), tA_ne M (k := 12) (k' := 7) i x (by decide), tA_ne M (k := 12) (k' := 8) i x (by decide), tA_ne M (k := 12) (k' := 9) i x (by decide), tA_ne M (k := 12) (k' := 10) i x (by decide), tA_ne M (k := 12) (k' := 11) i x (by decide), tA_ne M (k := 12) (k' := 13) i x (by decide), tA_ne M (k := 12) (k' := 14) i x (by decide), tA_ne M (k := 12) (k' := 15) i x (by decide), tA_ne M (k := 12) (k' := 16) i x (by decide), tA_ne M (k := 12) (k' := 20) i x (by decide), tA_ne M (k := 12) (k' := 21) i x (by decide), tA_ne M (k := 12) (k' := 22) i x (by decide), tA_ne M (k := 12) (k' := 23) i x (by decide), tA_ne M (k := 12) (k' := 24) i x (by decide), tA_ne M (k := 12) (k' := 25) i x (by decide), tA_ne M (k := 12) (k' := 26) i x (by decide), tA_ne M (k := 12) (k' := 27) i x (by decide)]
  rw [if_neg (c := e = 8) h2, if_neg (c := e = 8) h2]
  rfl
theorem vA13 (f : Nat → Option zO) (q : Nat) (M : mS) (i : Nat) (x : Int32) : zm_up (mH f q M) (q + 9) (.inl (0, 64, .inl (upd (mA M 13) i x))) = mH f q (tA M 13 i x) := by
  refine mH_put 9 (by decide) (congrArg (fun z => Sum.inl (0, 64, Sum.inl z)) (tA_at M 13 i x)) (fun e h1 h2 => ?_)
  unfold m_cell
  rw [tA_ne M (k := 13) (k' := 4) i x (by decide), tA_ne M (k := 13) (k' := 6) i x (by decide), tA_ne M (k := 13) (k' := 7) i x (by decide), tA_ne M (k := 13) (k' := 8) i x (by decide), tA_ne M (k := 13) (k' := 9) i x (by decide), tA_ne M (k := 13) (k' := 10) i x (by decide), tA_ne M (k := 13) (k' := 11) i x (by decide), tA_ne M (k := 13) (k' := 12) i x (by decide), tA_ne M (k := 13) (k' := 14) i x (by decide), tA_ne M (k := 13) (k' := 15) i x (by decide), tA_ne M (k := 13) (k' := 16) i x (by decide), tA_ne M (k := 13) (k' := 20) i x (by decide), tA_ne M (k := 13) (k' := 21) i x (by decide), tA_ne M (k := 13) (k' := 22) i x (by decide), tA_ne M (k := 13) (k' := 23) i x (by decide), tA_ne M (k := 13) (k' := 24) i x (by decide), tA_ne M (k := 13) (k' := 25) i x (by decide), tA_ne M (k := 13) (k' := 26) i x (by decide), tA_ne M (k := 13) (k' := 27) i x (by decide)]
  rw [if_neg (c := e = 9) h2, if_neg (c := e = 9) h2]
  rfl
theorem vA14 (f : Nat → Option zO) (q : Nat) (M : mS) (i : Nat) (x : Int32) : zm_up (mH f q M) (q + 10) (.inl (0, 256, .inl (upd (mA M 14) i x))) = mH f q (tA M 14 i x) := by
  refine mH_put 10 (by decide) (congrArg (fun z => Sum.inl (0, 256, Sum.inl z)) (tA_at M 14 i x)) (fun e h1 h2 => ?_)
  unfold m_cell
  rw [tA_ne M (k := 14) (k' := 4) i x (by decide), tA_ne M (k := 14) (k' := 6) i x (by decide), tA_ne M (k := 14) (k' := 7) i x (by decide), tA_ne M (k := 14) (k' := 8) i x (by decide), tA_ne M (k := 14) (k' := 9) i x (by decide), tA_ne M (k := 14) (k' := 10) i x (by decide), tA_ne M (k := 14) (k' := 11) i x (by decide), tA_ne M (k := 14) (k' := 12) i x (by decide), tA_ne M (k := 14) (k' := 13) i x (by decide), tA_ne M (k := 14) (k' := 15) i x (by decide), tA_ne M (k := 14) (k' := 16) i x (by decide), tA_ne M (k := 14) (k' := 20) i x (by decide), tA_ne M (k := 14) (k' := 21) i x (by decide), tA_ne M (k := 14) (k' := 22) i x (by decide), tA_ne M (k := 14) (k' := 23) i x (by decide), tA_ne M (k := 14) (k' := 24) i x (by decide), tA_ne M (k := 14) (k' := 25) i x (by decide), tA_ne M (k := 14) (k' := 26) i x (by decide), tA_ne M (k := 14) (k' := 27) i x (by decide)]
  rw [if_neg (c := e = 10) h2, if_neg (c := e = 10) h2]
  rfl
theorem vA15 (f : Nat → Option zO) (q : Nat) (M : mS) (i : Nat) (x : Int32) : zm_up (mH f q M) (q + 11) (.inl (0, 64, .inl (upd (mA M 15) i x))) = mH f q (tA M 15 i x) := by
  refine mH_put 11 (by decide) (congrArg (fun z => Sum.inl (0, 64, Sum.inl z)) (tA_at M 15 i x)) (fun e h1 h2 => ?_)
  unfold m_cell
  rw [tA_ne M (k := 15) (k' := 4) i x (by decide), tA_ne M (k := 15) (k' := 6) i x (by decide), tA_ne M (k := 15) (k' := 7) i x (by decide), tA_ne M (k := 15) (k' := 8) i x (by decide), tA_ne M (k := 15) (k' := 9) i x (by decide), tA_ne M (k := 15) (k' := 10) i x (by decide), tA_ne M (k := 15) (k' := 11) i x (by decide), tA_ne M (k := 15) (k' := 12) i x (by decide), tA_ne M (k := 15) (k' := 13) i x (by decide), tA_ne M (k := 15) (k' := 14) i x (by decide), tA_ne M (k := 15) (k' := 16) i x (by decide), tA_ne M (k := 15) (k' := 20) i x (by decide), tA_ne M (k := 15) (k' := 21) i x (by decide), tA_ne M (k := 15) (k' := 22) i x (by decide), tA_ne M (k := 15) (k' := 23) i x (by decide), tA_ne M (k := 15) (k' := 24) i x (by decide), tA_ne M (k := 15) (k' := 25) i x (by decide), tA_ne M (k := 15) (k' := 26) i x (by decide), tA_ne M (k := 15) (k' := 27) i x (by decide)]
  rw [if_neg (c := e = 11) h2, if_neg (c := e = 11) h2]
  rfl
theorem vA16 (f : Nat → Option zO) (q : Nat) (M : mS) (i : Nat) (x : Int32) : zm_up (mH f q M) (q + 12) (.inl (0, 2, .inl (upd (mA M 16) i x))) = mH f q (tA M 16 i x) := by
  refine mH_put 12 (by decide) (congrArg (fun z => Sum.inl (0, 2, Sum.inl z)) (tA_at M 16 i x)) (fun e h1 h2 => ?_)
  unfold m_cell
  rw [tA_ne M (k := 16) (k' := 4) i x (by decide), tA_ne M (k := 16) (k' := 6) i x (by decide), tA_ne M (k := 16) (k' := 7) i x (by decide), tA_ne M (k := 16) (k' := 8) i x (by decide), tA_ne M (k := 16) (k' := 9) i x (by decide), tA_ne M (k := 16) (k' := 10) i x (by decide), tA_ne M (k := 16) (k' := 11) i x (by decide), tA_ne M (k := 16) (k' := 12) i x (by decide), tA_ne M (k := 16) (k' := 13) i x (by decide), tA_ne M (k := 16) (k' := 14) i x (by decide), tA_ne M (k := 16) (k' := 15) i x (by decide), tA_ne M (k := 16) (k' := 20) i x (by decide), tA_ne M (k := 16) (k' := 21) i x (by decide), tA_ne M (k := 16) (k' := 22) i x (by decide), tA_ne M (k := 16) (k' := 23) i x (by decide), tA_ne M (k := 16) (k' := 24) i x (by decide), tA_ne M (k := 16) (k' := 25) i x (by decide), tA_ne M (k := 16) (k' := 26) i x (by decide), tA_ne M (k := 16) (k' := 27) i x (by decide)]
  rw [if_neg (c := e = 12) h2, if_neg (c := e = 12) h2]
  rfl
theorem vA20 (f : Nat → Option zO) (q : Nat) (M : mS) (i : Nat) (x : Int32) : zm_up (mH f q M) (q + 13) (.inl (0, 64, .inl (upd (mA M 20) i x))) = mH f q (tA M 20 i x) := by
  refine mH_put 13 (by decide) (congrArg (fun z => Sum.inl (0, 64, Sum.inl z)) (tA_at M 20 i x)) (fun e h1 h2 => ?_)
  unfold m_cell
  rw [tA_ne M (k := 20) (k' := 4) i x (by decide), tA_ne M (k := 20) (k' := 6) i x (by decide), tA_ne M (k := 20) (k' := 7) i x (by decide), tA_ne M (k := 20) (k' := 8) i x (by decide), tA_ne M (k := 20) (k' := 9) i x (by decide), tA_ne M (k := 20) (k' := 10) i x (by decide), tA_ne M (k := 20) (k' := 11) i x (by decide), tA_ne M (k := 20) (k' := 12) i x (by decide), tA_ne M (k := 20) (k' := 13) i x (by decide), tA_ne M (k := 20) (k' := 14) i x (by decide), tA_ne M (k := 20) (k' := 15) i x (by decide), tA_ne M (k := 20) (k' := 16) i x (by decide), tA_ne M (k := 20) (k' := 21) i x (by decide), tA_ne M (k := 20) (k' := 22) i x (by decide), tA_ne M (k := 20) (k' := 23) i x (by decide), tA_ne M (k := 20) (k' := 24) i x (by decide), tA_ne M (k := 20) (k' := 25) i x (by decide), tA_ne M (k := 20) (k' := 26) i x (by decide), tA_ne M (k := 20) (k' := 27) i x (by decide)]
  rw [if_neg (c := e = 13) h2, if_neg (c := e = 13) h2]
  rfl
theorem vA21 (f : Nat → Option zO) (q : Nat) (M : mS) (i : Nat) (x : Int32) : zm_up (mH f q M) (q + 14) (.inl (0, 1024, .inl (upd (mA M 21) i x))) = mH f q (tA M 21 i x) := by
  refine mH_put 14 (by decide) (congrArg (fun z => Sum.inl (0, 1024, Sum.inl z)) (tA_at M 21 i x)) (fun e h1 h2 => ?_)
  unfold m_cell
  rw [tA_ne M (k := 21) (k' := 4) i x (by decide), tA_ne M (k := 21) (k' := 6) i x (by decide), tA_ne M (k := 21) (k' := 7) i x (by decide), tA_ne M (k := 21) (k' := 8) i x (by decide), tA_ne M (k := 21) (k' := 9) i x (by decide), tA_ne M (k := 21) (k' := 10) i x (by decide), tA_ne M (k := 21) (k' := 11) i x (by decide), tA_ne M (k := 21) (k' := 12) i x (by decide), tA_ne M (k := 21) (k' := 13) i x (by decide), tA_ne M (k := 21) (k' := 14) i x (by decide), tA_ne M (k := 21) (k' := 15) i x (by decide), tA_ne M (k := 21) (k' := 16) i x (by decide), tA_ne M (k := 21) (k' := 20) i x (by decide), tA_ne M (k := 21) (k' := 22) i x (by decide), tA_ne M (k := 21) (k' := 23) i x (by decide), tA_ne M (k := 21) (k' := 24) i x (by decide), tA_ne M (k := 21) (k' := 25) i x (by decide), tA_ne M (k := 21) (k' := 26) i x (by decide), tA_ne M (k := 21) (k' := 27) i x (by decide)]
  rw [if_neg (c := e = 14) h2, if_neg (c := e = 14) h2]
  rfl
theorem vA22 (f : Nat → Option zO) (q : Nat) (M : mS) (i : Nat) (x : Int32) : zm_up (mH f q M) (q + 15) (.inl (0, 64, .inl (upd (mA M 22) i x))) = mH f q (tA M 22 i x) := by
  refine mH_put 15 (by decide) (congrArg (fun z => Sum.inl (0, 64, Sum.inl z)) (tA_at M 22 i x)) (fun e h1 h2 => ?_)
  unfold m_cell
  rw [tA_ne M (k := 22) (k' := 4) i x (by decide), tA_ne M (k := 22) (k' := 6) i x (by decide), tA_ne M (k := 22) (k' := 7) i x (by decide), tA_ne M (k := 22) (k' := 8) i x (by decide), tA_ne M (k := 22) (k' := 9) i x (by decide), tA_ne M (k := 22) (k' := 10) i x (by decide), tA_ne M (k := 22) (k' := 11) i x (by decide), tA_ne M (k := 22) (k' := 12) i x (by decide), tA_ne M (k := 22) (k' := 13) i x (by decide), tA_ne M (k := 22) (k' := 14) i x (by decide), tA_ne M (k := 22) (k' := 15) i x (by decide), tA_ne M (k := 22) (k' := 16) i x (by decide), tA_ne M (k := 22) (k' := 20) i x (by decide), tA_ne M (k := 22) (k' := 21) i x (by decide), tA_ne M (k := 22) (k' := 23) i x (by decide), tA_ne M (k := 22) (k' := 24) i x (by decide), tA_ne M (k := 22) (k' := 25) i x (by decide), tA_ne M (k := 22) (k' := 26) i x (by decide), tA_ne M (k := 22) (k' := 27) i x (by decide)]
  rw [if_neg (c := e = 15) h2, if_neg (c := e = 15) h2]
  rfl
theorem vA23 (f : Nat → Option zO) (q : Nat) (M : mS) (i : Nat) (x : Int32) : zm_up (mH f q M) (q + 16) (.inl (0, 64, .inl (upd (mA M 23) i x))) = mH f q (tA M 23 i x) := by
  refine mH_put 16 (by decide) (congrArg (fun z => Sum.inl (0, 64, Sum.inl z)) (tA_at M 23 i x)) (fun e h1 h2 => ?_)
  unfold m_cell
  rw [tA_ne M (k := 23) (k' := 4) i x (by decide), tA_ne M (k := 23) (k' := 6) i x (by decide), tA_ne M (k := 23) (k' := 7) i x (by decide), tA_ne M (k := 23) (k' := 8) i x (by decide), tA_ne M (k := 23) (k' := 9) i x (by decide), tA_ne M (k := 23) (k' := 10) i x (by decide), tA_ne M (k := 23) (k' := 11) i x (by decide), tA_ne M (k := 23) (k' := 12) i x (by decide), tA_ne M (k := 23) (k' := 13) i x (by decide), tA_ne M (k := 23) (k' := 14) i x (by decide), tA_ne M (k := 23) (k' := 15) i x (by decide), tA_ne M (k := 23) (k' := 16) i x (by decide), tA_ne M (k := 23) (k' := 20) i x (by decide), tA_ne M (k := 23) (k' := 21) i x (by decide), tA_ne M (k := 23) (k' := 22) i x (by decide), tA_ne M (k := 23) (k' := 24) i x (by decide), tA_ne M (k := 23) (k' := 25) i x (by decide), tA_ne M (k := 23) (k' := 26) i x (by decide), tA_ne M (k := 23) (k' := 27) i x (by decide)]
  rw [if_neg (c := e = 16) h2, if_neg (c := e = 16) h2]
  rfl
theorem vA24 (f : Nat → Option zO) (q : Nat) (M : mS) (i : Nat) (x : Int32) : zm_up (mH f q M) (q + 17) (.inl (0, 64, .inl (upd (mA M 24) i x))) = mH f q (tA M 24 i x) := by
  refine mH_put 17 (by decide) (congrArg (fun z => Sum.inl (0, 64, Sum.inl z)) (tA_at M 24 i x)) (fun e h1 h2 => ?_)
  unfold m_cell
  rw [tA_ne M (k := 24) (k' := 4) i x (by decide), tA_ne M (k := 24) (k' := 6) i x (by decide), tA_ne M (k := 24) (k' := 7) i x (by decide), tA_ne M (k := 24) (k' := 8) i x (by decide), tA_ne M (k := 24) (k' := 9) i x (by decide), tA_ne M (k := 24) (k' := 10) i x (by decide), tA_ne M (k := 24) (k' := 11) i x (by decide), tA_ne M (k := 24) (k' := 12) i x (by decide), tA_ne M (k := 24) (k' := 13) i x (by decide), tA_ne M (k := 24) (k' := 14) i x (by decide), tA_ne M (k := 24) (k' := 15) i x (by decide), tA_ne M (k := 24) (k' := 16) i x (by decide), tA_ne M (k := 24) (k' := 20) i x (by decide), tA_ne M (k := 24) (k' := 21) i x (by decide), tA_ne M (k := 24) (k' := 22) i x (by decide), tA_ne M (k := 24) (k' := 23) i x (by decide), tA_ne M (k := 24) (k' := 25) i x (by decide), tA_ne M (k := 24) (k' := 26) i x (by decide), tA_ne M (k := 24) (k' := 27) i x (by decide)]
  rw [if_neg (c := e = 17) h2, if_neg (c := e = 17) h2]
  rfl
theorem vA25 (f : Nat → Option zO) (q : Nat) (M : mS) (i : Nat) (x : Int32) : zm_up (mH f q M) (q + 18) (.inl (0, 64, .inl (upd (mA M 25) i x))) = mH f q (tA M 25 i x) := by
  refine mH_put 18 (by decide) (congrArg (fun z => Sum.inl (0, 64, Sum.inl z)) (tA_at M 25 i x)) (fun e h1 h2 => ?_)
  unfold m_cell
  rw [tA_ne M (k := 25) (k' := 4) i x (by decide), tA_ne M (k := 25) (k' := 6) i x (by decide), tA_ne M (k := 25) (k' := 7) i x (by decide), tA_ne M (k := 25) (k' := 8) i x (by decide), tA_ne M (k := 25) (k' := 9) i x (by decide), tA_ne M (k := 25) (k' := 10) i x (by decide), tA_ne M (k := 25) (k' := 11) i x (by decide), tA_ne M (k := 25) (k' := 12) i x (by decide), tA_ne M (k := 25) (k' := 13) i x (by decide), tA_ne M (k := 25) (k' := 14) i x (by decide), tA_ne M (k := 25) (k' := 15) i x (by decide), tA_ne M (k := 25) (k' := 16) i x (by decide), tA_ne M (k := 25) (k' := 20) i x (by decide), tA_ne M (k := 25) (k' := 21) i x (by decide), tA_ne M (k := 25) (k' := 22) i x (by decide), tA_ne M (k := 25) (k' := 23) i x (by decide), tA_ne M (k := 25) (k' := 24) i x (by decide), tA_ne M (k := 25) (k' := 26) i x (by decide), tA_ne M (k := 25) (k' := 27) i x (by decide)]
  rw [if_neg (c := e = 18) h2, if_neg (c := e = 18) h2]
  rfl
theorem vA26 (f : Nat → Option zO) (q : Nat) (M : mS) (i : Nat) (x : Int32) : zm_up (mH f q M) (q + 19) (.inl (0, 64, .inl (upd (mA M 26) i x))) = mH f q (tA M 26 i x) := by
  refine mH_put 19 (by decide) (congrArg (fun z => Sum.inl (0, 64, Sum.inl z)) (tA_at M 26 i x)) (fun e h1 h2 => ?_)
  unfold m_cell
  rw [tA_ne M (k := 26) (k' := 4) i x (by decide), tA_ne M (k := 26) (k' := 6) i x (by decide), tA_ne M (k := 26) (k' := 7) i x (by decide), tA_ne M (k := 26) (k' := 8) i x (by decide), tA_ne M (k := 26) (k' := 9) i x (by decide), tA_ne M (k := 26) (k' := 10) i x (by decide), tA_ne M (k := 26) (k' := 11) i x (by decide), tA_ne M (k := 26) (k' := 12) i x (by decide), tA_ne M (k := 26) (k' := 13) i x (by decide), tA_ne M (k := 26) (k' := 14) i x (by decide), tA_ne M (k := 26) (k' := 15) i x (by decide), tA_ne M (k := 26) (k' := 16) i x (by decide), tA_ne M (k := 26) (k' := 20) i x (by decide), tA_ne M (k := 26) (k' := 21) i x (by decide), tA_ne M (k := 26) (k' := 22) i x (by decide), tA_ne M (k := 26) (k' := 23) i x (by decide), tA_ne M (k := 26) (k' := 24) i x (by decide), tA_ne M (k := 26) (k' := 25) i x (by decide), tA_ne M (k := 26) (k' := 27) i x (by decide)]
  rw [if_neg (c := e = 19) h2, if_neg (c := e = 19) h2]
  rfl
theorem vA27 (f : Nat → Option zO) (q : Nat) (M : mS) (i : Nat) (x : Int32) : zm_up (mH f q M) (q + 20) (.inl (0, 64, .inl (upd (mA M 27) i x))) = mH f q (tA M 27 i x) := by
  refine mH_put 20 (by decide) (congrArg (fun z => Sum.inl (0, 64, Sum.inl z)) (tA_at M 27 i x)) (fun e h1 h2 => ?_)
  unfold m_cell
  rw [tA_ne M (k := 27) (k' := 4) i x (by decide), tA_ne M (k := 27) (k' := 6) i x (by decide), tA_ne M (k := 27) (k' := 7) i x (by decide), tA_ne M (k := 27) (k' := 8) i x (by decide), tA_ne M (k := 27) (k' := 9) i x (by decide), tA_ne M (k := 27) (k' := 10) i x (by decide), tA_ne M (k := 27) (k' := 11) i x (by decide), tA_ne M (k := 27) (k' := 12) i x (by decide), tA_ne M (k := 27) (k' := 13) i x (by decide), tA_ne M (k := 27) (k' := 14) i x (by decide), tA_ne M (k := 27) (k' := 15) i x (by decide), tA_ne M (k := 27) (k' := 16) i x (by decide), tA_ne M (k := 27) (k' := 20) i x (by decide), tA_ne M (k := 27) (k' := 21) i x (by decide), tA_ne M (k := 27) (k' := 22) i x (by decide), tA_ne M (k := 27) (k' := 23) i x (by decide), tA_ne M (k := 27) (k' := 24) i x (by decide), tA_ne M (k := 27) (k' := 25) i x (by decide), tA_ne M (k := 27) (k' := 26) i x (by decide)]
  rw [if_neg (c := e = 20) h2, if_neg (c := e = 20) h2]
  rfl
theorem vD (f : Nat → Option zO) (q : Nat) (M : mS) (i : Nat) (x : Int64) : zm_up (mH f q M) (q + 21) (.inl (1, 64, .inr (.inl (vp_updL (mD M) i x)))) = mH f q (tD M i x) := by
  refine mH_put 21 (by decide) rfl (fun e h1 h2 => ?_)
  rcases (show e = 0 ∨ e = 1 ∨ e = 2 ∨ e = 3 ∨ e = 4 ∨ e = 5 ∨ e = 6 ∨ e = 7 ∨ e = 8 ∨ e = 9 ∨ e = 10 ∨ e = 11 ∨ e = 12 ∨ e = 13 ∨ e = 14 ∨ e = 15 ∨ e = 16 ∨ e = 17 ∨ e = 18 ∨ e = 19 ∨ e = 20 by omega) with rfl | rfl | rfl | rfl | rfl | rfl | rfl | rfl | rfl | rfl | rfl | rfl | rfl | rfl | rfl | rfl | rfl | rfl | rfl | rfl | rfl <;> rfl
