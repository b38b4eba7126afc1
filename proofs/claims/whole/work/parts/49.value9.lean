/-! verify as a value -/
/-- the moves of one port: how many are done, the hold, and whether all went well -/
def vIn (step : Nat → pL → Option pL) (port : Nat → Nat) (q : Nat) : Nat → Nat → pL → (Nat × pL) × Bool
  | 0, i, L => ((i, L), true)
  | m + 1, i, L => if port i = q then (match step i L with | some L' => vIn step port q m (i + 1) L' | none => ((i, L), false)) else ((i, L), true)
/-- the ports from one on: the answer and the hold -/
def vOut (step : Nat → pL → Option pL) (port : Nat → Nat) (bad : Nat → pL → Bool) (N : Nat) : Nat → Nat → Nat → pL → Nat × pL
  | 0, _, _, L => (if L 0 = [] ∧ L 1 = [] ∧ L 2 = [] then 0 else N + 1, L)
  | m + 1, q, i, L =>
    let r := vIn step port q (N - i) i L
    if r.2 = false then (r.1.1 + 1, r.1.2) else if m ≠ 0 ∧ bad q r.1.2 = true then (if r.1.1 < 1 then 1 else r.1.1, r.1.2) else vOut step port bad N m (q + 1) r.1.1 r.1.2
theorem vIn_le (step : Nat → pL → Option pL) (port : Nat → Nat) (q : Nat) : ∀ m i L, i ≤ (vIn step port q m i L).1.1 ∧ (vIn step port q m i L).1.1 ≤ m + i := by
  intro m
  induction m with
  | zero => intro i L; exact ⟨Nat.le_refl _, (show i ≤ 0 + i by omega)⟩
  | succ m ih =>
    intro i L
    rw [vIn]
    split
    · cases e : step i L with
      | none => exact ⟨Nat.le_refl _, (show i ≤ m + 1 + i by omega)⟩
      | some L' =>
        have := ih (i + 1) L'
        dsimp only
        exact ⟨by omega, by omega⟩
    · exact ⟨Nat.le_refl _, (show i ≤ m + 1 + i by omega)⟩
theorem vIn_ok {S T : Nat} {cap : Int32} {W : Nat → Int32} {rs : pR} {N : Nat} (hS : S ≤ 3) (hr : ∀ i, i < N → (rs i).1 < 5 ∧ ∀ s, (rs i).2.2.1 = some s → s < 3) (port : Nat → Nat) (q : Nat) : ∀ m i L, m + i ≤ N → pOk L T → pIn L S → pOk (vIn (aStep S T cap W rs) port q m i L).1.2 T ∧ pIn (vIn (aStep S T cap W rs) port q m i L).1.2 S := by
  intro m
  induction m with
  | zero => intro i L _ h1 h2; exact ⟨h1, h2⟩
  | succ m ih =>
    intro i L hi h1 h2
    rw [vIn]
    split
    · cases e : aStep S T cap W rs i L with
      | none => exact ⟨h1, h2⟩
      | some L' =>
        obtain ⟨u1, u2⟩ := hr i (by omega)
        exact ih (i + 1) L' (by omega) (aAct_ok h1 hS u1 u2 e) (pIn_act h2 e)
    · exact ⟨h1, h2⟩
