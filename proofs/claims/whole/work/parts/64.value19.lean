/-! choosing: what the class knows on its way -/
theorem find_first {P : pL → Bool} : ∀ (l : List pL) (i : Nat) (h : i < l.length), (∀ j, (hj : j < i) → ¬ P l[j] = true) → P l[i] = true → l.find? P = some l[i] := by
  intro l
  induction l with
  | nil => intro i h; exact absurd h (Nat.not_lt_zero _)
  | cons a l ih =>
    intro i h hn hp
    cases i with
    | zero =>
      rw [List.find?_cons]
      have : P a = true := hp
      rw [this]
      rfl
    | succ i =>
      rw [List.find?_cons]
      have z : ¬ P a = true := hn 0 (Nat.zero_lt_succ _)
      rw [Bool.eq_false_iff.mpr z]
      exact ih i (Nat.lt_of_succ_lt_succ h) (fun j hj => hn (j + 1) (Nat.succ_lt_succ hj)) hp
theorem rest_tab : ∀ x : Fin 11, ∀ y z : Fin 6, z.val ≤ y.val → (y.val - z.val ≤ x.val → nI x.val - nI y.val + nI z.val = nI (x.val - (y.val - z.val))) ∧ (x.val < y.val - z.val → nI x.val - nI y.val + nI z.val < 0) := by decide +kernel
theorem rest_val {L M : pL} {T T' lf : Nat} (hL : pOk L T) (hM : pOk M T') (h1 : ∀ b, ct L b ≤ 1) (h : lf ≤ 10) : (cost L M ≤ lf → nI lf - nI (shr L M) + nI (kpt L M) = nI (lf - cost L M)) ∧ (lf < cost L M → nI lf - nI (shr L M) + nI (kpt L M) < 0) := by
  have k := kpt_le hL hM h1
  have s := shr_le5 L M
  exact rest_tab ⟨lf, by omega⟩ ⟨shr L M, by omega⟩ ⟨kpt L M, by omega⟩ k
theorem bits_tab : ∀ x y : Fin 32, fbc (nI x.val &&& nI y.val) = nI ((List.range 5).countP (fun b => x.val.testBit b && y.val.testBit b)) := by decide +kernel
theorem stay_val {sa : Nat → Nat → Int32} {B p T : Nat} (hB : B ≤ 5) {L M : pL} (hL : arr (duP sa B p) T L) (hM : arr (duP sa B (p + 1)) T M) : fbc (fdue sa (nI p) B &&& fdue sa (nI p + 1) B) = nI (shr L M) := by
  rw [← nI_succ]
  obtain ⟨i1, i2, i3⟩ := fdueN_ok sa (nI p) B hB
  obtain ⟨j1, j2, j3⟩ := fdueN_ok sa (nI (p + 1)) B hB
  rw [i1, j1, bits_tab ⟨_, i2⟩ ⟨_, j2⟩]
  congr 1
  unfold shr
  apply List.countP_congr
  intro b hb
  have hb := List.mem_range.mp hb
  dsimp only
  rw [Bool.and_eq_true, Bool.and_eq_true, i3, j3, decide_eq_true_eq, decide_eq_true_eq, hL.2.2 b, hM.2.2 b, duP_iff, duP_iff]
  exact ⟨fun h => ⟨⟨hb, h.1⟩, ⟨hb, h.2⟩⟩, fun h => ⟨h.1.2, h.2.2⟩⟩
/-- the remembered bounds hold -/
def lbI (A : Nat → List pL) (D : Nat) (st : Nat → Nat) (lb : Nat → Int32) : Prop := ∀ p, p < D → ∀ i, (h : i < (A p).length) → ∃ v, lb (st p + i) = nI v ∧ ∀ m, bh A D p ((A p)[i]) = some m → v ≤ m
theorem lbI_zero {A : Nat → List pL} {D : Nat} {st : Nat → Nat} : lbI A D st (fun _ => 0) := fun _ _ _ _ => ⟨0, rfl, fun _ _ => Nat.zero_le _⟩
theorem lbI_set {A : Nat → List pL} {du : Nat → Nat → Bool} {T D : Nat} {st : Nat → Nat} {lb : Nat → Int32} (hl : lay st A D) (hn : ∀ q, q < D → ¬ A q = []) (hA : ∀ q, q < D → ∀ M ∈ A q, arr (du q) T M) (h : lbI A D st lb) {p i v m : Nat} (hp : p < D) (hi : i < (A p).length) (e : bh A D p ((A p)[i]) = some m) (hv : v ≤ m) : lbI A D st (upd lb (st p + i) (nI v)) := by
  intro q hq j hj
  unfold upd
  by_cases z : st q + j = st p + i
  · rw [if_pos z]
    refine ⟨v, rfl, fun m' e' => ?_⟩
    have s : bh A D q ((A q)[j]) = bh A D p ((A p)[i]) := by
      by_cases y : p ≤ q
      · have := bh_share hl hn hA (q - p) p i j (by omega) hi (by simpa only [show p + (q - p) = q by omega] using hj) (by rw [show p + (q - p) = q by omega]; exact z.symm)
        simp only [show p + (q - p) = q by omega] at this
        exact this.symm
      · have := bh_share hl hn hA (p - q) q j i (by omega) hj (by simpa only [show q + (p - q) = p by omega] using hi) (by rw [show q + (p - q) = p by omega]; exact z)
        simp only [show q + (p - q) = p by omega] at this
        exact this
    rw [s, e] at e'
    cases e'
    exact hv
  · rw [if_neg z]
    exact h q hq j hj
/-- the least through an arrangement is no less than the least -/
theorem bo_le {A : Nat → List pL} {n p m v : Nat} {L M : pL} (hM : M ∈ A p) (e : bo A (n + 1) p L = some m) (e1 : bo A n (p + 1) M = some v) : m ≤ v + cost L M := by
  rw [bo] at e
  exact (oF_some _ _ _ _ e).2.2 M hM (v + cost L M) (by rw [e1]; rfl)
theorem isB_iff {A : Nat → List pL} {n p m v : Nat} {L M : pL} (e : bo A (n + 1) p L = some m) (e1 : bo A n (p + 1) M = some v) : isB A n p L M = true ↔ v + cost L M = m := by
  unfold isB
  rw [decide_eq_true_eq, e, e1]
  exact ⟨fun h => Option.some.inj h, fun h => congrArg some h⟩
