/-! the lists of class and model are the same -/
theorem du_eq {mi : Nat → Int32} {sa ma : Nat → Nat → Int32} {si : Nat → Int32} (hE : shEq si sa mi ma) {B : Nat} (hB : si 7 = nI B) (hB5 : B ≤ 5) (p b : Nat) (hb : b < 5) : duM mi ma (nI p) b = duP sa B p b := by
  obtain ⟨⟨_, _, _, _, _, _, e8⟩, ha⟩ := hE
  unfold duM duP
  refine decide_eq_decide.mpr ?_
  unfold fM_ab
  rw [e8, hB, ha 1 (by decide), ha 2 (by decide), ha 5 (by decide)]
  by_cases h : b < B
  · have hh : nI b < nI B := nI_lt h (by omega)
    by_cases y : dueP sa (nI p) b
    · rw [if_pos ⟨hh, y⟩]
      exact ⟨fun _ => ⟨h, y⟩, fun _ => by decide⟩
    · rw [if_neg (fun z => y z.2)]
      exact ⟨fun z => absurd rfl z, fun z => absurd z.2 y⟩
  · have hh : ¬ nI b < nI B := nI_nlt (by omega) (by omega)
    rw [if_neg (fun z => hh z.1)]
    exact ⟨fun z => absurd rfl z, fun z => absurd z.1 h⟩
theorem ab01 (mi : Nat → Int32) (ma : Nat → Nat → Int32) (b : Nat) (q : Int32) : fM_ab mi ma b q = 0 ∨ fM_ab mi ma b q = 1 := by
  unfold fM_ab
  split
  · exact Or.inr rfl
  · exact Or.inl rfl
theorem ok_eq {mi : Nat → Int32} {sa ma : Nat → Nat → Int32} {si : Nat → Int32} (hE : shEq si sa mi ma) {S T B : Nat} (hT3 : T ≤ 3) (hS : si 0 = nI S) (hS3 : S ≤ 3) (hm : 0 ≤ si 5) (hB : si 7 = nI B) (hB5 : B ≤ 5) (p : Nat) {M : pL} (h : eOk S T (duM mi ma (nI p)) 9 M) : okM mi ma S p M = okC si sa S (duP sa B p) M := by
  obtain ⟨h1, h2, h3, h4, _, _⟩ := h
  have hd := du_eq hE hB hB5 p
  obtain ⟨⟨e1, e2, e3, e4, e5, e6, e8⟩, ha⟩ := hE
  have u := sound_eq (mi := mi) (ma := ma) h1 hT3 h2 hS hS3 e1 e4 e5 e6 hm (ha 0 (by decide)) (ha 3 (by decide)) (ha 4 (by decide))
  have v : ¬ fM_all mi (sM M) ma (nI p) 5 = 0 ↔ wt5 (duP sa B p) M = 0 := by
    rw [fM_all_iff]
    unfold wt5
    rw [List.countP_eq_zero]
    constructor
    · intro z b hb
      have hb := List.mem_range.mp hb
      rw [Bool.and_eq_true, Bool.not_eq_true', decide_eq_false_iff_not]
      rintro ⟨y1, y2⟩
      rw [← hd b hb] at y1
      have y1 := of_decide_eq_true y1
      rw [z b hb] at y1
      exact y2 ((sM_has h1 hT3 hb).mp y1)
    · intro z b hb
      have z := z b (List.mem_range.mpr hb)
      rw [Bool.and_eq_true, Bool.not_eq_true', decide_eq_false_iff_not, ← hd b hb] at z
      have w := sM_has h1 hT3 hb
      have x : ¬ fM_ab mi ma b (nI p) = 0 ↔ pHas M b := by
        constructor
        · intro y
          by_cases t : pHas M b
          · exact t
          · exact absurd ⟨decide_eq_true y, t⟩ z
        · intro y
          exact of_decide_eq_true (h4 b y)
      rcases ab01 mi ma b (nI p) with c | c <;> rcases in01 (sM M) (nI b) 9 with d | d
      · rw [c, d]
      · exact absurd c (x.mpr (w.mp (by rw [d]; decide)))
      · exact absurd d (w.mpr (x.mp (by rw [c]; decide)))
      · rw [c, d]
  unfold okM okC
  exact decide_eq_decide.mpr (and_congr v u.symm)
theorem lm_ls {mi : Nat → Int32} {sa ma : Nat → Nat → Int32} {si : Nat → Int32} (hE : shEq si sa mi ma) {S T B : Nat} (hT3 : T ≤ 3) (hS : si 0 = nI S) (hS3 : S ≤ 3) (hm : 0 ≤ si 5) (hB : si 7 = nI B) (hB5 : B ≤ 5) (p : Nat) : lmA mi ma S T p = lsA si sa S T B p := by
  unfold lmA lsA
  exact eGo_cg (fun b hb => du_eq hE hB hB5 p b hb) (fun M hM => ok_eq hE hT3 hS hS3 hm hB hB5 p hM) 9 (Nat.le_refl _) pE eOk_zero
