/-! the model's list: from a slot and a value on -/
def eFrom (S T : Nat) (du : Nat → Bool) (ok : pL → Bool) (n c : Nat) (L : pL) : List pL :=
  (if c = 0 then eGo S T du ok n L else []) ++ ((List.range 5).drop (c - 1)).flatMap (fun b => if eMay S T du (8 - n) b L = true then eGo S T du ok n (pPut L ((8 - n) / 3) b) else [])
theorem eFrom_0 {S T : Nat} {du : Nat → Bool} {ok : pL → Bool} {n : Nat} {L : pL} : eFrom S T du ok n 0 L = eGo S T du ok (n + 1) L := by
  unfold eFrom
  rw [if_pos rfl, eGo]
  rfl
theorem eFrom_first {S T : Nat} {du : Nat → Bool} {ok : pL → Bool} {n : Nat} {L : pL} : eFrom S T du ok n 0 L = eGo S T du ok n L ++ eFrom S T du ok n 1 L := by
  unfold eFrom
  rw [if_pos rfl, if_neg (by decide)]
  rfl
theorem eFrom_next {S T : Nat} {du : Nat → Bool} {ok : pL → Bool} {n b : Nat} {L : pL} (hb : b < 5) : eFrom S T du ok n (b + 1) L = (if eMay S T du (8 - n) b L = true then eGo S T du ok n (pPut L ((8 - n) / 3) b) else []) ++ eFrom S T du ok n (b + 2) L := by
  unfold eFrom
  rw [if_neg (Nat.succ_ne_zero _), if_neg (Nat.succ_ne_zero _), List.nil_append, List.nil_append, Nat.add_sub_cancel, show b + 2 - 1 = b + 1 by omega]
  have hl : b < (List.range 5).length := by rw [List.length_range]; exact hb
  rw [List.drop_eq_getElem_cons hl, List.flatMap_cons, List.getElem_range]
theorem eFrom_6 {S T : Nat} {du : Nat → Bool} {ok : pL → Bool} {n : Nat} {L : pL} : eFrom S T du ok n 6 L = [] := by
  unfold eFrom
  rw [if_neg (by decide)]
  rfl
theorem eGo_cg {S T : Nat} {du du2 : Nat → Bool} {ok ok2 : pL → Bool} (hd : ∀ b, b < 5 → du b = du2 b) (ho : ∀ M, eOk S T du 9 M → ok M = ok2 M) : ∀ n, n ≤ 9 → ∀ L, eOk S T du (9 - n) L → eGo S T du ok n L = eGo S T du2 ok2 n L := by
  intro n
  induction n with
  | zero =>
    intro _ L h
    rw [eGo, eGo, ho L h]
  | succ n ih =>
    intro hn L h
    have hp := eOk_pass h
    rw [show 9 - (n + 1) + 1 = 9 - n by omega] at hp
    rw [eGo, eGo, ih (by omega) L hp]
    congr 1
    have h8 : eOk S T du (8 - n) L := by rw [show 8 - n = 9 - (n + 1) by omega]; exact h
    have e : ∀ b ∈ List.range 5, (if eMay S T du (8 - n) b L = true then eGo S T du ok n (pPut L ((8 - n) / 3) b) else []) = (if eMay S T du2 (8 - n) b L = true then eGo S T du2 ok2 n (pPut L ((8 - n) / 3) b) else []) := by
      intro b hb
      have hb := List.mem_range.mp hb
      have em : eMay S T du (8 - n) b L = eMay S T du2 (8 - n) b L := by unfold eMay; rw [hd b hb]
      rw [← em]
      by_cases y : eMay S T du (8 - n) b L = true
      · rw [if_pos y, if_pos y]
        refine ih (by omega) _ ?_
        have := eOk_put (by omega) hb h8 y
        rw [show 8 - n + 1 = 9 - n by omega] at this
        exact this
      · rw [if_neg y, if_neg y]
    have fl : ∀ (l : List Nat) (f g : Nat → List pL), (∀ b ∈ l, f b = g b) → l.flatMap f = l.flatMap g := by
      intro l f g
      induction l with
      | nil => intro _; rfl
      | cons a l ihl =>
        intro h
        rw [List.flatMap_cons, List.flatMap_cons, h a (List.mem_cons_self ..), ihl (fun b hb => h b (List.mem_cons_of_mem _ hb))]
    exact fl _ _ _ e
/-- whether a box may be put into a slot, as the model finds it -/
def fMay (mi f : Nat → Int32) (ma : Nat → Nat → Int32) (k c : Nat) (q : Int32) : Int32 := if (nI (k / 3) < mi 1 ∧ nI (k % 3) < mi 2) ∧ (k % 3 = 0 ∨ ¬ f (k - 1) < 0) ∧ ¬ fM_ab mi ma c q = 0 ∧ fM_in f (nI c) k = 0 then 1 else 0
def duM (mi : Nat → Int32) (ma : Nat → Nat → Int32) (q : Int32) (b : Nat) : Bool := decide (¬ fM_ab mi ma b q = 0)
theorem sM_two9 {L : pL} {T : Nat} (hL : pOk L T) (k : Nat) : sM L k = -1 ∨ ∃ c, c < 5 ∧ sM L k = nI c ∧ c ∈ L (k / 3) := by
  unfold sM
  cases h : (L (k / 3))[k % 3]? with
  | none => exact Or.inl rfl
  | some b => exact Or.inr ⟨b, hL.box _ _ (List.mem_of_getElem? h), rfl, List.mem_of_getElem? h⟩
theorem may_in {S T : Nat} {du : Nat → Bool} {k b : Nat} {L : pL} {f : Nat → Int32} (hk : k < 9) (h : eOk S T du k L) (hT : T ≤ 3) (hb : b < 5) (hf : ∀ j, j < k → f j = sM L j) : ¬ fM_in f (nI b) k = 0 ↔ pHas L b := by
  obtain ⟨h1, h2, h3, h4, h5, h6⟩ := h
  rw [fM_in_iff, sM_eq h1 hT hb]
  constructor
  · rintro ⟨j, hj, e⟩
    exact ⟨j, by omega, by rw [← hf j hj]; exact e⟩
  · rintro ⟨j, hj, e⟩
    have hjk : j < k := by
      by_cases z : j < k
      · exact z
      · exfalso
        have en : sM L j = -1 := by
          rw [show j = 3 * (j / 3) + j % 3 by omega]
          refine sM_no (by omega) ?_
          by_cases y : k / 3 < j / 3
          · rw [h5 _ y]; exact Nat.zero_le _
          · rw [show j / 3 = k / 3 by omega]
            omega
        rw [en] at e
        exact nI_ne_m1 (by omega) e.symm
    exact ⟨j, hjk, by rw [hf j hjk]; exact e⟩
theorem may_val {S T : Nat} {mi f : Nat → Int32} {ma : Nat → Nat → Int32} {q : Int32} {k b : Nat} {L : pL} (hk : k < 9) (hS : mi 1 = nI S) (hS3 : S ≤ 3) (hT : mi 2 = nI T) (hT3 : T ≤ 3) (h : eOk S T (duM mi ma q) k L) (hb : b < 5) (hf : ∀ j, j < k → f j = sM L j) : fMay mi f ma k b q = if eMay S T (duM mi ma q) k b L = true then 1 else 0 := by
  have hin := may_in hk h hT3 hb hf
  obtain ⟨h1, h2, h3, h4, h5, h6⟩ := h
  have c1 : nI (k / 3) < nI S ↔ k / 3 < S := nI_ltI (by omega) (by omega)
  have c2 : nI (k % 3) < nI T ↔ k % 3 < T := nI_ltI (by omega) (by omega)
  have c3 : (k % 3 = 0 ∨ ¬ f (k - 1) < 0) ↔ (L (k / 3)).length = k % 3 := by
    by_cases z : k % 3 = 0
    · exact ⟨fun _ => by omega, fun _ => Or.inl z⟩
    · rw [hf (k - 1) (by omega), show k - 1 = 3 * (k / 3) + (k % 3 - 1) by omega, sM_neg h1 (by omega)]
      exact ⟨fun y => by omega, fun y => Or.inr (by omega)⟩
  have e : ((nI (k / 3) < mi 1 ∧ nI (k % 3) < mi 2) ∧ (k % 3 = 0 ∨ ¬ f (k - 1) < 0) ∧ ¬ fM_ab mi ma b q = 0 ∧ fM_in f (nI b) k = 0) ↔ eMay S T (duM mi ma q) k b L = true := by
    rw [eMay_iff, hS, hT, c1, c2, c3]
    unfold duM
    rw [decide_eq_true_eq]
    constructor
    · rintro ⟨⟨a1, a2⟩, a3, a4, a5⟩
      exact ⟨⟨a1, a2, a3, fun z => hin.mpr z a5⟩, a4⟩
    · rintro ⟨⟨a1, a2, a3, a4⟩, a5⟩
      refine ⟨⟨a1, a2⟩, a3, a5, ?_⟩
      by_cases z : fM_in f (nI b) k = 0
      · exact z
      · exact absurd (hin.mp z) a4
  unfold fMay
  by_cases z : eMay S T (duM mi ma q) k b L = true
  · rw [if_pos z, if_pos (e.mpr z)]
  · rw [if_neg z, if_neg (fun y => z (e.mp y))]
/-- the slots with one more chosen -/
theorem sM_put {S T : Nat} {du : Nat → Bool} {k b : Nat} {L : pL} {f : Nat → Int32} (hk : k < 9) (hT3 : T ≤ 3) (hm : eMay S T du k b L = true) (hf : ∀ j, j < k → f j = sM L j) : ∀ j, j < k + 1 → upd f k (nI b) j = sM (pPut L (k / 3) b) j := by
  obtain ⟨⟨m1, m2, m3, m4⟩, m5⟩ := eMay_iff.mp hm
  have e := sM_push (L := L) (s := k / 3) b (by omega)
  rw [m3, show 3 * (k / 3) + k % 3 = k by omega] at e
  intro j hj
  unfold pPut
  rw [← e]
  unfold upd
  by_cases z : j = k
  · rw [if_pos z, if_pos z]
  · rw [if_neg z, if_neg z]
    exact hf j (by omega)
theorem sM_pass {S T : Nat} {du : Nat → Bool} {k : Nat} {L : pL} {f : Nat → Int32} (h : eOk S T du k L) (hf : ∀ j, j < k → f j = sM L j) : ∀ j, j < k + 1 → upd f k (-1) j = sM L j := by
  obtain ⟨h1, h2, h3, h4, h5, h6⟩ := h
  intro j hj
  unfold upd
  by_cases z : j = k
  · rw [if_pos z, z, show k = 3 * (k / 3) + k % 3 by omega]
    exact (sM_no (by omega) h6).symm
  · rw [if_neg z]
    exact hf j (by omega)
/-- a least, or none -/
def oI : Option Nat → Int32
  | some v => nI v
  | none => -1
