/-! verify: class and model answer the same -/
/-- the ship of the class and the ship of the model are the same -/
def shEq (si : Nat → Int32) (sa : Nat → Nat → Int32) (mi : Nat → Int32) (ma : Nat → Nat → Int32) : Prop :=
  (mi 1 = si 0 ∧ mi 2 = si 1 ∧ mi 3 = si 2 ∧ mi 4 = si 3 ∧ mi 5 = si 4 ∧ mi 6 = si 5 ∧ mi 8 = si 7) ∧ ∀ j, j < 6 → ma j = sa j
theorem bad_eq {si mi : Nat → Int32} {sa ma : Nat → Nat → Int32} (hE : shEq si sa mi ma) {L : pL} {S T B : Nat} (hL : pOk L T) (hT : T ≤ 3) (hI : pIn L S) (hS : si 0 = nI S) (hS3 : S ≤ 3) (hm : 0 ≤ si 5) (hB : si 7 = nI B) (hB5 : B ≤ 5) (q : Nat) : badC si sa S B q L = badM mi ma S q L := by
  obtain ⟨⟨e1, e2, e3, e4, e5, e6, e8⟩, ha⟩ := hE
  have u := sound_eq (mi := mi) (ma := ma) hL hT hI hS hS3 e1 e4 e5 e6 hm (ha 0 (by omega)) (ha 3 (by omega)) (ha 4 (by omega))
  have v := due_eq (mi := mi) (ma := ma) hL hT hB hB5 e8 (ha 1 (by omega)) (ha 2 (by omega)) (ha 5 (by omega)) (nI q)
  unfold badC badM
  refine decide_eq_decide.mpr ?_
  unfold fmay
  by_cases h : fab (sM L) 9 = fdue sa (nI q) B
  · rw [if_pos h]
    constructor
    · intro z
      by_cases w : fM_so mi (sM L) ma S S = 0
      · exact Or.inl w
      · exact absurd z (u.mpr w)
    · rintro (z | z)
      · by_cases w : fsound si (sM L) (fun s => nI (L s).length) (fun s => pW (sa 3) (L s)) sa (pV (sa 3) L) S = 0
        · exact w
        · exact absurd z (u.mp w)
      · exact absurd z (v.mp h)
  · rw [if_neg h]
    refine ⟨fun _ => Or.inr ?_, fun _ => rfl⟩
    by_cases w : fM_all mi (sM L) ma (nI q) 5 = 0
    · exact w
    · exact absurd (v.mpr w) h
theorem vOut_cg {S T : Nat} {cap : Int32} {W : Nat → Int32} {rs : pR} {N : Nat} (hS : S ≤ 3) (hr : ∀ i, i < N → (rs i).1 < 5 ∧ ∀ s, (rs i).2.2.1 = some s → s < 3) (port : Nat → Nat) {bad bad' : Nat → pL → Bool} (hb : ∀ q L, pOk L T → pIn L S → bad q L = bad' q L) : ∀ m q i L, i ≤ N → pOk L T → pIn L S → vOut (aStep S T cap W rs) port bad N m q i L = vOut (aStep S T cap W rs) port bad' N m q i L := by
  intro m
  induction m with
  | zero => intro q i L _ _ _; rfl
  | succ m ih =>
    intro q i L hi h1 h2
    have hle := vIn_le (aStep S T cap W rs) port q (N - i) i L
    obtain ⟨o1, o2⟩ := vIn_ok (T := T) (cap := cap) (W := W) hS hr port q (N - i) i L (by omega) h1 h2
    rw [vOut, vOut, hb q _ o1 o2, ih (q + 1) _ _ (by omega) o1 o2]
