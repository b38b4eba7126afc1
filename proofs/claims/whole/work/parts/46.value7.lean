/-! soundness: class and model see the same -/
theorem kx_eq {si : Nat → Int32} {L : pL} {S T : Nat} (hL : pOk L T) (hT : T ≤ 3) (hI : pIn L S) (hS : si 0 = nI S) (hS3 : S ≤ 3) (ki : Nat → Int32) (s : Nat) (hs : s < 9) (k : Int32) : fhl si (sM L) (fun s => nI (L s).length) ki (nI s) k = fM_kx (sM L) ki (nI s) k := by
  rw [fhl_val hL hT hI hS hS3 ki s (by omega) k, fM_kx_val hL hT hI hS3 ki s (by omega) k]
theorem kx_m1 {si : Nat → Int32} {L : pL} {S T : Nat} (hL : pOk L T) (hT : T ≤ 3) (hI : pIn L S) (hS : si 0 = nI S) (hS3 : S ≤ 3) (ki : Nat → Int32) (s : Nat) (hs : s < 3) (k : Int32) : fhl si (sM L) (fun s => nI (L s).length) ki (nI s - 1) k = fM_kx (sM L) ki (nI s - 1) k := by
  have u : s = 0 ∨ s = 1 ∨ s = 2 := by omega
  rcases u with rfl | rfl | rfl
  · have e1 : fhl si (sM L) (fun s => nI (L s).length) ki (nI 0 - 1) k = 0 := if_pos (by decide)
    have e2 : fM_kx (sM L) ki (nI 0 - 1) k = 0 := if_pos (by decide)
    rw [e1, e2]
  · rw [show nI 1 - 1 = nI 0 from by decide]; exact kx_eq hL hT hI hS hS3 ki 0 (by omega) k
  · rw [show nI 2 - 1 = nI 1 from by decide]; exact kx_eq hL hT hI hS hS3 ki 1 (by omega) k
theorem near_iff (f ki : Nat → Int32) (x : Int32) : fM_near f ki x = 0 ↔ ¬ (fM_kx f ki (x - 1) 3 ≠ 0 ∨ fM_kx f ki x 3 ≠ 0 ∨ fM_kx f ki (x + 1) 3 ≠ 0) := by
  unfold fM_near
  by_cases h : ¬ fM_kx f ki (x - 1) 3 = 0 ∨ ¬ fM_kx f ki x 3 = 0 ∨ ¬ fM_kx f ki (x + 1) 3 = 0
  · rw [if_pos h]
    exact ⟨fun z => absurd z (by decide), fun z => absurd h z⟩
  · rw [if_neg h]
    exact ⟨fun _ => h, fun _ => rfl⟩
theorem lg1 {a b c d e : Prop} (hb : Decidable b) (hd : Decidable d) : (a ∧ ¬ (¬ b ∧ c) ∧ ¬ (¬ d ∧ e)) ↔ (a ∧ (¬ c ∨ b) ∧ (¬ e ∨ d)) := by
  constructor
  · rintro ⟨h1, h2, h3⟩
    refine ⟨h1, ?_, ?_⟩
    · by_cases x : b
      · exact Or.inr x
      · exact Or.inl (fun y => h2 ⟨x, y⟩)
    · by_cases x : d
      · exact Or.inr x
      · exact Or.inl (fun y => h3 ⟨x, y⟩)
  · rintro ⟨h1, h2, h3⟩
    exact ⟨h1, fun y => h2.elim (fun z => z y.2) (fun z => y.1 z), fun y => h3.elim (fun z => z y.2) (fun z => y.1 z)⟩
theorem fss_iff {si mi : Nat → Int32} {sa ma : Nat → Nat → Int32} {L : pL} {S T : Nat} (hL : pOk L T) (hT : T ≤ 3) (hI : pIn L S) (hS : si 0 = nI S) (hS3 : S ≤ 3) (e4 : mi 4 = si 3) (a0 : ma 0 = sa 0) (a3 : ma 3 = sa 3) (a4 : ma 4 = sa 4) (s : Nat) (hs : s < 3) :
    ¬ fss si (sM L) (fun s => nI (L s).length) (fun s => pW (sa 3) (L s)) sa s = 0 ↔ (fM_w (sM L) (ma 3) s 3 ≤ mi 4 ∧ (¬ ma 0 s = 0 ∨ fM_kx (sM L) (ma 4) (nI s) 1 = 0) ∧ (fM_near (sM L) (ma 4) (nI s) = 0 ∨ fM_kx (sM L) (ma 4) (nI s) 2 = 0)) := by
  rw [near_iff, a0, a3, a4, e4, sM_w hL hT]
  have k1 : ∀ k, fhl si (sM L) (fun s => nI (L s).length) (sa 4) (nI s) k = fM_kx (sM L) (sa 4) (nI s) k := kx_eq hL hT hI hS hS3 _ s (by omega)
  have k2 : ∀ k, fhl si (sM L) (fun s => nI (L s).length) (sa 4) (nI s - 1) k = fM_kx (sM L) (sa 4) (nI s - 1) k := kx_m1 hL hT hI hS hS3 _ s hs
  have k3 : ∀ k, fhl si (sM L) (fun s => nI (L s).length) (sa 4) (nI s + 1) k = fM_kx (sM L) (sa 4) (nI s + 1) k := by
    intro k
    rw [← nI_succ]
    exact kx_eq hL hT hI hS hS3 _ (s + 1) (by omega) k
  unfold fss
  rw [k1, k1, k1, k2, k3]
  refine Iff.trans ?_ (lg1 inferInstance inferInstance)
  split
  · next h => exact ⟨fun _ => h, fun _ => by decide⟩
  · next h => exact ⟨fun z => absurd rfl z, fun z => absurd z h⟩
theorem fall_iff (si f g u : Nat → Int32) (sa : Nat → Nat → Int32) : ∀ m j, ¬ fall si f g u sa m j = 0 ↔ ∀ s, j ≤ s → s < j + m → ¬ fss si f g u sa s = 0 := by
  intro m
  induction m with
  | zero => intro j; rw [fall]; exact ⟨fun _ s h1 h2 => by omega, fun _ => by decide⟩
  | succ m ih =>
    intro j
    rw [fall]
    by_cases h : fss si f g u sa j = 0
    · rw [if_pos h]
      exact ⟨fun z => absurd rfl z, fun z => absurd h (z j (Nat.le_refl _) (by omega))⟩
    · rw [if_neg h, ih]
      constructor
      · intro z s h1 h2
        by_cases hs : s = j
        · rw [hs]; exact h
        · exact z s (by omega) (by omega)
      · intro z s h1 h2
        exact z s (by omega) (by omega)
theorem fM_so_iff (mi f : Nat → Int32) (ma : Nat → Nat → Int32) (S : Nat) : ∀ n, ¬ fM_so mi f ma S n = 0 ↔ ((fM_v f (ma 3) 9 ≤ mi 5 ∧ fM_l mi f (ma 3) S ≤ mi 6 ∧ -fM_l mi f (ma 3) S ≤ mi 6) ∧ ∀ s, s < n → (fM_w f (ma 3) s 3 ≤ mi 4 ∧ (¬ ma 0 s = 0 ∨ fM_kx f (ma 4) (nI s) 1 = 0) ∧ (fM_near f (ma 4) (nI s) = 0 ∨ fM_kx f (ma 4) (nI s) 2 = 0))) := by
  intro n
  induction n with
  | zero =>
    rw [fM_so]
    split
    · next h => exact ⟨fun _ => ⟨h, fun s hs => by omega⟩, fun _ => by decide⟩
    · next h => exact ⟨fun z => absurd rfl z, fun z => absurd z.1 h⟩
  | succ n ih =>
    rw [fM_so]
    split
    · next h =>
      refine ⟨fun _ => ?_, fun _ => by decide⟩
      obtain ⟨b, c⟩ := ih.mp h.1
      refine ⟨b, fun s hs => ?_⟩
      by_cases hn : s = n
      · rw [hn]; exact h.2
      · exact c s (by omega)
    · next h =>
      refine ⟨fun z => absurd rfl z, fun z => absurd ?_ h⟩
      exact ⟨ih.mpr ⟨z.1, fun s hs => z.2 s (by omega)⟩, z.2 n (by omega)⟩
theorem sound_eq {si mi : Nat → Int32} {sa ma : Nat → Nat → Int32} {L : pL} {S T : Nat} (hL : pOk L T) (hT : T ≤ 3) (hI : pIn L S) (hS : si 0 = nI S) (hS3 : S ≤ 3) (e1 : mi 1 = si 0) (e4 : mi 4 = si 3) (e5 : mi 5 = si 4) (e6 : mi 6 = si 5) (hm : 0 ≤ si 5) (a0 : ma 0 = sa 0) (a3 : ma 3 = sa 3) (a4 : ma 4 = sa 4) :
    ¬ fsound si (sM L) (fun s => nI (L s).length) (fun s => pW (sa 3) (L s)) sa (pV (sa 3) L) S = 0 ↔ ¬ fM_so mi (sM L) ma S S = 0 := by
  rw [fM_so_iff, a3, fM_v_val hL hT, fM_l_val hL hT (sa 3) e1, e5, e6, ← abs_val hm]
  have q : (∀ s, s < S → ¬ fss si (sM L) (fun s => nI (L s).length) (fun s => pW (sa 3) (L s)) sa s = 0) ↔ ∀ s, s < S → (fM_w (sM L) (sa 3) s 3 ≤ mi 4 ∧ (¬ ma 0 s = 0 ∨ fM_kx (sM L) (ma 4) (nI s) 1 = 0) ∧ (fM_near (sM L) (ma 4) (nI s) = 0 ∨ fM_kx (sM L) (ma 4) (nI s) 2 = 0)) := by
    have w := fun s (hs : s < S) => fss_iff (mi := mi) (ma := ma) hL hT hI hS hS3 e4 a0 a3 a4 s (by omega)
    rw [a3] at w
    exact ⟨fun z s hs => (w s hs).mp (z s hs), fun z s hs => (w s hs).mpr (z s hs)⟩
  rw [← q]
  unfold fsound
  by_cases h1 : si 4 < pV (sa 3) L
  · rw [if_pos h1]
    exact ⟨fun z => absurd rfl z, fun z => absurd h1 (Int32.not_lt.mpr z.1.1)⟩
  · rw [if_neg h1]
    by_cases h2 : fab32 (fsl si (fun s => pW (sa 3) (L s)) S) ≤ si 5
    · rw [if_pos h2, fall_iff]
      constructor
      · intro z
        exact ⟨⟨Int32.not_lt.mp h1, h2⟩, fun s hs => z s (Nat.zero_le _) (by omega)⟩
      · intro z s _ hs
        exact z.2 s (by omega)
    · rw [if_neg h2]
      exact ⟨fun z => absurd rfl z, fun z => absurd z.1.2 h2⟩
