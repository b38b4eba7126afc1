/-! arrangements as numbers, both ways -/
theorem nI_shl {a d k : Nat} (hk : k < 32) (h : a * 2 ^ k < 2 ^ 31) (hd : d < 2 ^ k) : (nI a <<< nI k) ||| nI d = nI (a * 2 ^ k + d) := by
  apply Int32.toBitVec_inj.mp
  apply BitVec.eq_of_toNat_eq
  have ek : (nI k).toBitVec = BitVec.ofNat 32 k := rfl
  have ea : (nI a).toBitVec = BitVec.ofNat 32 a := rfl
  have ed : (nI d).toBitVec = BitVec.ofNat 32 d := rfl
  have er : (nI (a * 2 ^ k + d)).toBitVec = BitVec.ofNat 32 (a * 2 ^ k + d) := rfl
  have p1 : 1 ≤ 2 ^ k := Nat.one_le_two_pow
  have ha : a < 2 ^ 31 := Nat.lt_of_le_of_lt (Nat.le_mul_of_pos_right a p1) h
  have hk2 : (2 : Nat) ^ k ≤ 2 ^ 31 := Nat.pow_le_pow_right (by decide) (by omega)
  rw [Int32.toBitVec_or, Int32.toBitVec_shiftLeft, ek, ea, ed, er, BitVec.toNat_or, BitVec.shiftLeft_eq', BitVec.toNat_shiftLeft]
  have s1 : (BitVec.smod (BitVec.ofNat 32 k) 32#32).toNat = k := by
    have : ∀ k : Fin 32, (BitVec.smod (BitVec.ofNat 32 k.val) 32#32).toNat = k.val := by decide
    exact this ⟨k, hk⟩
  rw [show ((32 : BitVec 32)) = 32#32 from rfl, s1, BitVec.toNat_ofNat, BitVec.toNat_ofNat, BitVec.toNat_ofNat]
  rw [Nat.mod_eq_of_lt (show a < 2 ^ 32 by omega), Nat.mod_eq_of_lt (show d < 2 ^ 32 by omega), Nat.mod_eq_of_lt (show a * 2 ^ k + d < 2 ^ 32 by omega)]
  rw [Nat.shiftLeft_eq, Nat.mod_eq_of_lt (show a * 2 ^ k < 2 ^ 32 by omega)]
  have := Nat.shiftLeft_add_eq_or_of_lt hd a
  rw [Nat.shiftLeft_eq] at this
  exact this.symm
theorem nI_shr {c k : Nat} (hk : k < 32) (h : c < 2 ^ 31) : (nI c >>> nI k) = nI (c / 2 ^ k) := by
  apply Int32.toBitVec_inj.mp
  apply BitVec.eq_of_toNat_eq
  have ek : (nI k).toBitVec = BitVec.ofNat 32 k := rfl
  have ea : (nI c).toBitVec = BitVec.ofNat 32 c := rfl
  have er : (nI (c / 2 ^ k)).toBitVec = BitVec.ofNat 32 (c / 2 ^ k) := rfl
  have s1 : (BitVec.smod (BitVec.ofNat 32 k) 32#32).toNat = k := by
    have : ∀ k : Fin 32, (BitVec.smod (BitVec.ofNat 32 k.val) 32#32).toNat = k.val := by decide
    exact this ⟨k, hk⟩
  have hm : (BitVec.ofNat 32 c).msb = false := by
    rw [BitVec.msb_eq_false_iff_two_mul_lt, BitVec.toNat_ofNat, Nat.mod_eq_of_lt (by omega)]
    omega
  have hd : c / 2 ^ k ≤ c := Nat.div_le_self _ _
  rw [Int32.toBitVec_shiftRight, ek, ea, er, show ((32 : BitVec 32)) = 32#32 from rfl, BitVec.sshiftRight', s1, BitVec.sshiftRight_eq_of_msb_false hm, BitVec.toNat_ushiftRight, BitVec.toNat_ofNat, BitVec.toNat_ofNat, Nat.mod_eq_of_lt (show c < 2 ^ 32 by omega), Nat.mod_eq_of_lt (show c / 2 ^ k < 2 ^ 32 by omega), Nat.shiftRight_eq_div_pow]
theorem nI_and7 {c : Nat} (h : c < 2 ^ 31) : (nI c &&& 7) = nI (c % 8) := by
  apply Int32.toBitVec_inj.mp
  apply BitVec.eq_of_toNat_eq
  have ea : (nI c).toBitVec = BitVec.ofNat 32 c := rfl
  have e7 : (7 : Int32).toBitVec = BitVec.ofNat 32 7 := rfl
  have er : (nI (c % 8)).toBitVec = BitVec.ofNat 32 (c % 8) := rfl
  rw [Int32.toBitVec_and, ea, e7, er, BitVec.toNat_and, BitVec.toNat_ofNat, BitVec.toNat_ofNat, BitVec.toNat_ofNat, Nat.mod_eq_of_lt (show c < 2 ^ 32 by omega), Nat.mod_eq_of_lt (show c % 8 < 2 ^ 32 by omega)]
  exact Nat.and_two_pow_sub_one_eq_mod c 3
/-- a slot's three bits -/
def dg (L : pL) (k : Nat) : Nat := match (L (k / 3))[k % 3]? with | some b => b + 1 | none => 0
theorem dg_lt {L : pL} {T : Nat} (hL : pOk L T) (k : Nat) : dg L k < 6 := by
  unfold dg
  split
  · next b h =>
    have := hL.box _ b (List.mem_of_getElem? h)
    omega
  · omega
theorem dg_sM {L : pL} {T : Nat} (hL : pOk L T) (k : Nat) : sM L k = nI (dg L k) + (-1) ∧ sM L k + 1 = nI (dg L k) ∧ sM L k - (-1) = nI (dg L k) ∧ nI (dg L k) - 1 = sM L k := by
  have h6 := dg_lt hL k
  have e : sM L k = nI (dg L k) - 1 := by
    unfold sM dg
    cases (L (k / 3))[k % 3]? with
    | none => exact (by decide : (-1 : Int32) = nI 0 - 1)
    | some b => exact (nI_pred b).symm
  have u : ∀ n : Fin 6, nI n.val - 1 = nI n.val + (-1) ∧ nI n.val - 1 + 1 = nI n.val ∧ nI n.val - 1 - (-1) = nI n.val := by decide
  have := u ⟨dg L k, h6⟩
  rw [e]
  exact ⟨this.1, this.2.1, this.2.2, rfl⟩
def cN (L : pL) : Nat → Nat
  | 0 => 0
  | j + 1 => cN L j * 8 + dg L j
def cP (L : pL) : Nat → Nat
  | 0 => 0
  | j + 1 => cP L j + dg L j * 8 ^ j
theorem cN_lt {L : pL} {T : Nat} (hL : pOk L T) : ∀ j, cN L j < 8 ^ j := by
  intro j
  induction j with
  | zero => exact (by decide : (0 : Nat) < 1)
  | succ j ih =>
    have := dg_lt hL j
    rw [cN, Nat.pow_succ]
    omega
theorem cP_lt {L : pL} {T : Nat} (hL : pOk L T) : ∀ j, cP L j < 8 ^ j := by
  intro j
  induction j with
  | zero => exact (by decide : (0 : Nat) < 1)
  | succ j ih =>
    have h6 := dg_lt hL j
    have : dg L j * 8 ^ j ≤ 7 * 8 ^ j := Nat.mul_le_mul_right _ (by omega)
    rw [cP, Nat.pow_succ]
    omega
def cC (L : pL) : Int32 := nI (cN L 9)
def cM (L : pL) : Int32 := nI (cP L 9)
theorem fof_val {L : pL} {T : Nat} (hL : pOk L T) : fof (sM L) 9 = cC L := by
  have : ∀ j, j ≤ 9 → fof (sM L) j = nI (cN L j) := by
    intro j
    induction j with
    | zero => intro _; rfl
    | succ j ih =>
      intro hj
      have h6 := dg_lt hL j
      have h8 := cN_lt hL j
      have p8 : (8 : Nat) ^ j ≤ 8 ^ 8 := Nat.pow_le_pow_right (by decide) (by omega)
      rw [fof, ih (by omega), (dg_sM hL j).2.2.1, show ((3 : Int32) &&& 31) = nI 3 by decide, nI_shl (by decide) (by omega) (by omega)]
      rfl
  exact this 9 (Nat.le_refl _)
theorem fMp_val {L : pL} {T : Nat} (hL : pOk L T) : fM_p (sM L) 9 = cM L := by
  have u : ∀ j : Fin 9, ((3 * nI j.val) &&& 31) = nI (3 * j.val) := by decide
  have : ∀ j, j ≤ 9 → fM_p (sM L) j = nI (cP L j) := by
    intro j
    induction j with
    | zero => intro _; rfl
    | succ j ih =>
      intro hj
      have h6 := dg_lt hL j
      have h8 := cP_lt hL j
      have p8 : (8 : Nat) ^ j ≤ 8 ^ 8 := Nat.pow_le_pow_right (by decide) (by omega)
      have p3 : (2 : Nat) ^ (3 * j) = 8 ^ j := by rw [Nat.pow_mul]
      have q : dg L j * 8 ^ j ≤ 7 * 8 ^ 8 := Nat.mul_le_mul (by omega) p8
      rw [fM_p, ih (by omega), (dg_sM hL j).2.1, u ⟨j, by omega⟩, Int32.or_comm, nI_shl (by omega) (by rw [p3]; omega) (by rw [p3]; exact h8), p3, cP, Nat.add_comm]
  exact this 9 (Nat.le_refl _)
theorem cN_dg {L : pL} {T : Nat} (hL : pOk L T) : ∀ k, k < 9 → cN L 9 / 2 ^ (3 * (8 - k)) % 8 = dg L k := by
  intro k hk
  have h0 := dg_lt hL 0
  have h1 := dg_lt hL 1
  have h2 := dg_lt hL 2
  have h3 := dg_lt hL 3
  have h4 := dg_lt hL 4
  have h5 := dg_lt hL 5
  have h6 := dg_lt hL 6
  have h7 := dg_lt hL 7
  have h8 := dg_lt hL 8
  have e : cN L 9 = ((((((((0 * 8 + dg L 0) * 8 + dg L 1) * 8 + dg L 2) * 8 + dg L 3) * 8 + dg L 4) * 8 + dg L 5) * 8 + dg L 6) * 8 + dg L 7) * 8 + dg L 8 := rfl
  have u : k = 0 ∨ k = 1 ∨ k = 2 ∨ k = 3 ∨ k = 4 ∨ k = 5 ∨ k = 6 ∨ k = 7 ∨ k = 8 := by omega
  rcases u with rfl | rfl | rfl | rfl | rfl | rfl | rfl | rfl | rfl <;> omega
theorem cP_dg {L : pL} {T : Nat} (hL : pOk L T) : ∀ k, k < 9 → cP L 9 / 2 ^ (3 * k) % 8 = dg L k := by
  intro k hk
  have h0 := dg_lt hL 0
  have h1 := dg_lt hL 1
  have h2 := dg_lt hL 2
  have h3 := dg_lt hL 3
  have h4 := dg_lt hL 4
  have h5 := dg_lt hL 5
  have h6 := dg_lt hL 6
  have h7 := dg_lt hL 7
  have h8 := dg_lt hL 8
  have e : cP L 9 = 0 + dg L 0 * 8 ^ 0 + dg L 1 * 8 ^ 1 + dg L 2 * 8 ^ 2 + dg L 3 * 8 ^ 3 + dg L 4 * 8 ^ 4 + dg L 5 * 8 ^ 5 + dg L 6 * 8 ^ 6 + dg L 7 * 8 ^ 7 + dg L 8 * 8 ^ 8 := rfl
  have u : k = 0 ∨ k = 1 ∨ k = 2 ∨ k = 3 ∨ k = 4 ∨ k = 5 ∨ k = 6 ∨ k = 7 ∨ k = 8 := by omega
  rcases u with rfl | rfl | rfl | rfl | rfl | rfl | rfl | rfl | rfl <;> omega
theorem boxIn_val {L : pL} {T : Nat} (hL : pOk L T) {s t : Nat} (hs : s < 3) (ht : t < 3) : fC_boxIn (cC L) (nI s) (nI t) = sM L (3 * s + t) := by
  have h9 := cN_lt hL 9
  have u : ∀ s t : Fin 3, (((8 - nI s.val * 3 - nI t.val) * 3) &&& 31) = nI (3 * (8 - (3 * s.val + t.val))) := by decide
  unfold fC_boxIn cC
  rw [u ⟨s, hs⟩ ⟨t, ht⟩, nI_shr (by dsimp only; omega) (by omega), nI_and7 (Nat.lt_of_le_of_lt (Nat.div_le_self _ _) (by omega)), cN_dg hL _ (by dsimp only; omega)]
  exact (dg_sM hL _).1.symm
theorem boxAt_val {L : pL} {T : Nat} (hL : pOk L T) {k : Nat} (hk : k < 9) : fM_boxAt (cM L) (nI k) = sM L k := by
  have h9 := cP_lt hL 9
  have u : ∀ j : Fin 9, ((3 * nI j.val) &&& 31) = nI (3 * j.val) := by decide
  unfold fM_boxAt cM
  rw [u ⟨k, hk⟩, nI_shr (by dsimp only; omega) (by omega), nI_and7 (Nat.lt_of_le_of_lt (Nat.div_le_self _ _) (by omega)), cP_dg hL _ hk]
  exact (dg_sM hL _).2.2.2
