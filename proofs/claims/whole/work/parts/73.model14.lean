/-! the model: plan -/
def lmA (mi : Nat → Int32) (ma : Nat → Nat → Int32) (S T p : Nat) : List pL := eGo S T (duM mi ma (nI p)) (okM mi ma S p) 9 pE
/-- the same but for the arrays of the search -/
def agr (ma ma2 : Nat → Nat → Int32) : Prop := ∀ x, ¬ x = 6 → ¬ x = 7 → ¬ x = 8 → ¬ x = 9 → ma2 x = ma x
theorem lmA_cg {mi mi2 : Nat → Int32} {ma ma2 : Nat → Nat → Int32} {S T p : Nat} (h : ∀ x, x < 6 → ma2 x = ma x) (e1 : mi2 1 = mi 1) (e4 : mi2 4 = mi 4) (e5 : mi2 5 = mi 5) (e6 : mi2 6 = mi 6) (e8 : mi2 8 = mi 8) : lmA mi2 ma2 S T p = lmA mi ma S T p := by
  have a0 : ma2 0 = ma 0 := h 0 (by decide)
  have a1 : ma2 1 = ma 1 := h 1 (by decide)
  have a2 : ma2 2 = ma 2 := h 2 (by decide)
  have a3 : ma2 3 = ma 3 := h 3 (by decide)
  have a4 : ma2 4 = ma 4 := h 4 (by decide)
  have a5 : ma2 5 = ma 5 := h 5 (by decide)
  have d : duM mi2 ma2 (nI p) = duM mi ma (nI p) := by
    funext b
    unfold duM
    rw [fM_ab_cg e8 a1 a2 a5]
  have o : okM mi2 ma2 S p = okM mi ma S p := by
    funext L
    unfold okM
    rw [fM_all_cg e8 a1 a2 a5, fM_so_cg e1 e4 e5 e6 a0 a3 a4]
  unfold lmA
  rw [d, o]
theorem cM_E : cM pE = 0 := by decide
theorem tJ_lt : ∀ j : Fin 4, nI j.val - 1 < 0 ↔ j.val = 0 := by decide
set_option maxHeartbeats 16000000 in
theorem kM_plan {l : Launch} (hl : l.stackTraces = false) (d : Nat) (hd : 4 ≤ d) {pd : Int32} {si : Nat → Int32} {sa : Nat → Nat → Int32} {hv : Nat → Int32} {ha : Nat → Nat → Nat → Int32} {sl : Int32} {sc : Nat → Nat → Int32} {pl : Int32} {pa : Nat → Nat → Int32} {mi : Nat → Int32} {ma : Nat → Nat → Int32} {tl : pm_H} {S T D : Nat} (hS : mi 1 = nI S) (hS3 : S ≤ 3) (hT : mi 2 = nI T) (hT3 : T ≤ 3) (hP : mi 3 = nI (D + 1)) (hD1 : 1 ≤ D) (hD3 : D ≤ 3) (A : Nat → List pL) (hAe : ∀ p, p < D → lmA mi ma S T p = A p) (hAl : ∀ p, p < D → (A p).length ≤ 2600) (hA : ∀ p, p < D → ∀ N ∈ A p, pOk N T ∧ pIn N S ∧ ∀ b, ct N b ≤ 1) : ∃ ma2, agr (up1 ma 14 (fun _ => -1)) ma2 ∧ ((∃ m, bo A D 0 pE = some m ∧ pm_Sem l d mM_plan [.ref 31] (cH pd si sa hv ha sl sc pl pa (mH mi ma tl)) (some (.int (nI m))) (cH pd si sa hv ha sl sc pl pa (mH (up1 (up1 (up1 (up1 (up1 mi 0 0) 18 0) 19 0) 18 1) 19 (nI (mvAll 0 pE (pick A D 0 pE)).length)) (maW ma2 0 (mvAll 0 pE (pick A D 0 pE))) tl))) ∨ (bo A D 0 pE = none ∧ pm_Sem l d mM_plan [.ref 31] (cH pd si sa hv ha sl sc pl pa (mH mi ma tl)) (some (.int (-1))) (cH pd si sa hv ha sl sc pl pa (mH (up1 (up1 (up1 mi 0 0) 18 0) 19 0) ma2 tl)))) := by
  have eD : mi 3 - 1 = nI D := by rw [hP]; exact nI_pred D
  have eD2 : mi 3 - 2 = nI D - 1 := by rw [hP, nI_succ]; exact (by intro x; show x + 1 - 2 = x - 1; rw [show (2 : Int32) = 1 + 1 from rfl, ← Int32.sub_sub, Int32.add_sub_cancel] : ∀ x : Int32, x + 1 - 2 = x - 1) (nI D)
  have hlist : ∀ (j : Nat), j ≤ D → ∃ ma2, agr (up1 ma 14 (fun _ => -1)) ma2 ∧ (∀ p, p < j → mlI A ma2 p) ∧ ∀ (K : pm_X → Prop) (G : pm_X → State → Prop), (∀ X, K X → pm_Kd l d 0 0 X) → pm_Go mM_plan K G 11 [some (.ref 31), some (.int (nI j)), none, none, none, none] [] (cH pd si sa hv ha sl sc pl pa (mH (up1 (up1 (up1 mi 0 0) 18 0) 19 0) ma2 tl)) 0 0 → pm_Go mM_plan K G 11 [some (.ref 31), some (.int (nI 0)), none, none, none, none] [] (cH pd si sa hv ha sl sc pl pa (mH (up1 (up1 (up1 mi 0 0) 18 0) 19 0) (up1 ma 14 (fun _ => -1)) tl)) 0 0 := by
    intro j
    induction j with
    | zero => intro _; exact ⟨(up1 ma 14 (fun _ => -1)), fun _ _ _ _ _ => rfl, fun p hp => absurd hp (Nat.not_lt_zero _), fun _ _ _ h => h⟩
    | succ q ih =>
      intro hq
      obtain ⟨ma2, g1, g2, g3⟩ := ih (by omega)
      have el : lmA (up1 (up1 (up1 mi 0 0) 18 0) 19 0) ma2 S T q = A q := by
        rw [← hAe q (by omega)]
        exact lmA_cg (fun x hx => (g1 x (by omega) (by omega) (by omega) (by omega)).trans (if_neg (by omega))) rfl rfl rfl rfl rfl
      have hl9 := hAl q (by omega)
      obtain ⟨f, hw⟩ := kM_listAll (pd := pd) (si := si) (sa := sa) (hv := hv) (ha := ha) (sl := sl) (sc := sc) (pl := pl) (pa := pa) (mi := (up1 (up1 (up1 mi 0 0) 18 0) 19 0)) (ma := ma2) (tl := tl) hl 3 (Nat.le_refl _) (S := S) (T := T) hS hS3 hT hT3 q (by omega) (show (lmA (up1 (up1 (up1 mi 0 0) 18 0) 19 0) ma2 S T q).length ≤ 2600 by rw [el]; exact hl9)
      have hw : pm_Sem l 3 mM_listAll [.ref 31, .int (nI q)] (cH pd si sa hv ha sl sc pl pa (mH (up1 (up1 (up1 mi 0 0) 18 0) 19 0) ma2 tl)) none (cH pd si sa hv ha sl sc pl pa (mH (up1 (up1 (up1 mi 0 0) 18 0) 19 0) (maL ma2 q f (lmA (up1 (up1 (up1 mi 0 0) 18 0) 19 0) ma2 S T q)) tl)) := hw
      rw [el] at hw
      refine ⟨maL ma2 q f (A q), fun x h6 h7 h8 h9 => ?_, fun p hp => ?_, fun K G hK nx => g3 K G hK ?_⟩
      · rw [← g1 x h6 h7 h8 h9]
        unfold maL up1
        rw [if_neg h6, if_neg h8, if_neg h9]
      · by_cases z : p = q
        · subst z
          refine ⟨upd_at _ _ _, hl9, fun i h => ?_⟩
          show lsW (ma2 6) (2600 * p) ((A p).map cM) (2600 * p + i) = _
          rw [lsW_at _ _ _ _ (by rw [List.length_map]; exact h), List.getElem_map]
        · obtain ⟨b1, b2, b3⟩ := g2 p (by omega)
          refine ⟨?_, b2, fun i h => ?_⟩
          · show upd (ma2 8) q (nI (A q).length) p = _
            rw [upd_ne _ _ z]
            exact b1
          · show lsW (ma2 6) (2600 * q) ((A q).map cM) (2600 * p + i) = _
            rw [lsW_out _ _ _ _ (Or.inl (by omega))]
            exact b3 i h
      · skip
        refine pm_iload_n dM_plan_11 rfl (q := 12) rfl ?_
        refine pm_aload_n dM_plan_12 rfl (q := 13) rfl ?_
        refine pm_get fl_M_16 dM_plan_13 rfl rfl (q := 16) rfl ?_
        refine pm_iconst (x := 1) dM_plan_16 (by decide) (q := 17) rfl ?_
        refine pm_isub dM_plan_17 (q := 18) rfl ?_
        refine pm_topL (y := nI D) eD ?_
        refine pm_icmp_ge (tgt := 32) dM_plan_18 rfl (q := 21) rfl (fun z => absurd z (nI_ge (by omega) (by omega))) (fun _ => ?_)
        refine pm_aload_n dM_plan_21 rfl (q := 22) rfl ?_
        refine pm_iload_n dM_plan_22 rfl (q := 23) rfl ?_
        refine pm_cV1v hK (hw) mo_M_listAll im_M_listAll se_M_listAll lk_M_165 dM_plan_23 (by omega) (Nat.le_of_ble_eq_true rfl) (Nat.zero_le _) (Nat.zero_le _) rfl rfl rfl (q := 26) rfl ?_
        refine pm_iincL dM_plan_26 rfl (by decide) (y := nI (q + 1)) (by rw [nI_succ]; rfl) (q := 29) rfl ?_
        refine pm_goto (tgt := 11) dM_plan_29 rfl ?_
        exact nx
  obtain ⟨ma2, g1, g2, g3⟩ := hlist D (Nat.le_refl _)
  have hreck : ∀ (c j : Nat), c + j = D → ∃ f, (∀ p, j ≤ p → p < D → mbI A D f p) ∧ ∀ (K : pm_X → Prop) (G : pm_X → State → Prop), (∀ X, K X → pm_Kd l d 0 0 X) → pm_Go mM_plan K G 39 [some (.ref 31), some (.int (nI j - 1)), none, none, none, none] [] (cH pd si sa hv ha sl sc pl pa (mH (up1 (up1 (up1 mi 0 0) 18 0) 19 0) (up1 ma2 7 f) tl)) 0 0 → pm_Go mM_plan K G 39 [some (.ref 31), some (.int (nI D - 1)), none, none, none, none] [] (cH pd si sa hv ha sl sc pl pa (mH (up1 (up1 (up1 mi 0 0) 18 0) 19 0) ma2 tl)) 0 0 := by
    intro c
    induction c with
    | zero =>
      intro j hj
      have hj : j = D := by omega
      subst hj
      refine ⟨ma2 7, fun p h1 h2 => by omega, fun K G _ h => ?_⟩
      rw [up1_same] at h
      exact h
    | succ c ih =>
      intro q hq
      obtain ⟨f, b1, b2⟩ := ih (q + 1) (by omega)
      have w := kM_reckon (pd := pd) (si := si) (sa := sa) (hv := hv) (ha := ha) (sl := sl) (sc := sc) (pl := pl) (pa := pa) (mi := (up1 (up1 (up1 mi 0 0) 18 0) 19 0)) (ma := up1 ma2 7 f) (tl := tl) hl 3 (Nat.le_refl _) (D := D) hT3 hP hD3 A (fun p hp N hN => ⟨(hA p hp N hN).1, (hA p hp N hN).2.2⟩) q (by omega) (g2 q (by omega)) (fun h => g2 (q + 1) h) (fun h => b1 (q + 1) (Nat.le_refl _) h)
      have w : pm_Sem l 3 mM_reckon [.ref 31, .int (nI q)] (cH pd si sa hv ha sl sc pl pa (mH (up1 (up1 (up1 mi 0 0) 18 0) 19 0) (up1 ma2 7 f) tl)) none (cH pd si sa hv ha sl sc pl pa (mH (up1 (up1 (up1 mi 0 0) 18 0) 19 0) (up1 (up1 ma2 7 f) 7 (lsW f (2600 * q) ((A q).map (fun N => oI (bh A D q N))))) tl)) := w
      rw [up1_up1] at w
      refine ⟨lsW f (2600 * q) ((A q).map (fun N => oI (bh A D q N))), fun p h1 h2 i hi => ?_, fun K G hK nx => b2 K G hK ?_⟩
      · by_cases z : p = q
        · subst z
          rw [lsW_at _ _ _ _ (by rw [List.length_map]; exact hi), List.getElem_map]
        · have := hAl q (by omega)
          rw [lsW_out _ _ _ _ (Or.inr (by rw [List.length_map]; omega))]
          exact b1 p (by omega) h2 i hi
      · have ng : ¬ nI (q + 1) - 1 < 0 := fun z => by have := (tJ_lt ⟨q + 1, by omega⟩).mp z; dsimp only at this; omega
        have ep := nI_pred q
        refine pm_iload_n dM_plan_39 rfl (q := 40) rfl ?_
        refine pm_if_lt (tgt := 54) dM_plan_40 rfl (q := 43) rfl (fun z => absurd z ng) (fun _ => ?_)
        refine pm_aload_n dM_plan_43 rfl (q := 44) rfl ?_
        refine pm_iload_n dM_plan_44 rfl (q := 45) rfl ?_
        refine pm_topL (y := nI q) ep ?_
        refine pm_cV1v hK (w) mo_M_reckon im_M_reckon se_M_reckon lk_M_169 dM_plan_45 (by omega) (Nat.le_of_ble_eq_true rfl) (Nat.zero_le _) (Nat.zero_le _) rfl rfl rfl (q := 48) rfl ?_
        refine pm_iincL dM_plan_48 rfl (by decide) (y := nI q - 1) (tI_dec ⟨q, by omega⟩) (q := 51) rfl ?_
        refine pm_goto (tgt := 39) dM_plan_51 rfl ?_
        exact nx
  obtain ⟨f7, b1, b2⟩ := hreck D 0 (by omega)
  obtain ⟨k, hk⟩ : ∃ k, D = k + 1 := ⟨D - 1, by omega⟩
  have hl0 := g2 0 (by omega)
  have eb0 : ∀ i, (h : i < (A 0).length) → f7 (2600 * 0 + i) = oI (bo A k (0 + 1) ((A 0)[i])) := by
    intro i h
    rw [b1 0 (Nat.le_refl _) (by omega) i h]
    unfold bh
    rw [show D - 1 - 0 = k by omega]
  have hk3 : k ≤ 3 := by omega
  have hcl0 := hl0.2.1
  have ebo : bo A D 0 pE = (oF (fun K => (bo A k (0 + 1) K).map (fun v => v + cost pE K)) ((A 0).take (A 0).length) none) := by rw [hk, List.take_length, bo]
  have W0 : ∀ (r : Int32) (h2 : pm_H), (∀ (K : pm_X → Prop) (G : pm_X → State → Prop), (∀ X, K X → pm_Kd l d 0 0 X) → pm_Ret mM_plan K G (some (.int r)) h2 → ∀ o2, pm_Go mM_plan K G 108 [some (.ref 31), some (.int (oI (bo A D 0 pE))), o2, none, none, none] [] (cH pd si sa hv ha sl sc pl pa (mH (up1 (up1 (up1 mi 0 0) 18 0) 19 0) (up1 ma2 7 f7) tl)) 0 0) → pm_Sem l d mM_plan [.ref 31] (cH pd si sa hv ha sl sc pl pa (mH mi ma tl)) (some (.int r)) h2 := by
    intro r h2 hend
    refine pm_sem hl mo_M_plan ⟨_, rfl, rfl⟩ rfl rfl (Nat.le_of_ble_eq_true rfl) (fun K G hK hret => ?_)
    have hend := hend K G hK hret
    have hB : ∀ (m i : Nat), m + i = (A 0).length → pm_Go mM_plan K G 58 [some (.ref 31), some (.int (oI (oF (fun K => (bo A k (0 + 1) K).map (fun v => v + cost pE K)) ((A 0).take i) none))), some (.int (nI i)), none, none, none] [] (cH pd si sa hv ha sl sc pl pa (mH (up1 (up1 (up1 mi 0 0) 18 0) 19 0) (up1 ma2 7 f7) tl)) 0 0 := by
      intro m
      induction m with
      | zero =>
        intro i hi
        have hi : i = (A 0).length := by omega
        subst hi
        rw [← ebo]
        refine pm_iload_n dM_plan_58 rfl (q := 59) rfl ?_
        refine pm_aload_n dM_plan_59 rfl (q := 60) rfl ?_
        refine pm_get fl_M_54 dM_plan_60 rfl rfl (q := 63) rfl ?_
        refine pm_iconst (x := 0) dM_plan_63 (by decide) (q := 64) rfl ?_
        refine pm_ialdN (j := 0) dM_plan_64 rfl (by decide) (Nat.le_of_ble_eq_true rfl) (q := 65) rfl ?_
        refine pm_topL (y := nI (A 0).length) hl0.1 ?_
        refine pm_icmp_ge (tgt := 108) dM_plan_65 rfl (q := 68) rfl (fun _ => ?_) (fun z => absurd (nI_le (Nat.le_refl _) (by omega)) z)
        exact hend _
      | succ m ih =>
        intro i hi
        have hi9 : i < (A 0).length := by omega
        have hcl := hl0.2.1
        have hidx : i < 7800 := by omega
        have el := eb0 i hi9
        rw [Nat.mul_zero, Nat.zero_add] at el
        have eac : (oF (fun K => (bo A k (0 + 1) K).map (fun v => v + cost pE K)) ((A 0).take (i + 1)) none) = oMin (oF (fun K => (bo A k (0 + 1) K).map (fun v => v + cost pE K)) ((A 0).take i) none) ((bo A k (0 + 1) ((A 0)[i])).map (fun v => v + cost pE (A 0)[i])) := by
          rw [take_snoc hi9, oF_snoc]
        have nx := ih (i + 1) (by omega)
        have hab : ∀ a, (oF (fun K => (bo A k (0 + 1) K).map (fun v => v + cost pE K)) ((A 0).take i) none) = some a → a ≤ 5 * k + 5 := fun a e => oF_bnd e
        rw [eac] at nx
        generalize (oF (fun K => (bo A k (0 + 1) K).map (fun v => v + cost pE K)) ((A 0).take i) none) = ac at *
        cases hw : bo A k (0 + 1) ((A 0)[i]) with
        | none =>
          rw [hw] at el nx
          have el : _ = (-1 : Int32) := el
          have e0 : oMin ac (Option.map (fun v => v + cost pE (A 0)[i]) none) = ac := by cases ac <;> rfl
          rw [e0] at nx
          refine pm_iload_n dM_plan_58 rfl (q := 59) rfl ?_
          refine pm_aload_n dM_plan_59 rfl (q := 60) rfl ?_
          refine pm_get fl_M_54 dM_plan_60 rfl rfl (q := 63) rfl ?_
          refine pm_iconst (x := 0) dM_plan_63 (by decide) (q := 64) rfl ?_
          refine pm_ialdN (j := 0) dM_plan_64 rfl (by decide) (Nat.le_of_ble_eq_true rfl) (q := 65) rfl ?_
          refine pm_topL (y := nI (A 0).length) hl0.1 ?_
          refine pm_icmp_ge (tgt := 108) dM_plan_65 rfl (q := 68) rfl (fun z => absurd z (nI_ge hi9 (by omega))) (fun _ => ?_)
          refine pm_aload_n dM_plan_68 rfl (q := 69) rfl ?_
          refine pm_get fl_M_51 dM_plan_69 rfl rfl (q := 72) rfl ?_
          refine pm_iload_n dM_plan_72 rfl (q := 73) rfl ?_
          refine pm_ialdN dM_plan_73 rfl hidx (Nat.le_of_ble_eq_true rfl) (q := 74) rfl ?_
          refine pm_topL (y := -1) el ?_
          refine pm_if_lt (tgt := 100) dM_plan_74 rfl (q := 77) rfl (fun _ => ?_) (fun z => absurd (by decide) z)
          refine pm_iload_n dM_plan_100 rfl (q := 101) rfl ?_
          refine pm_istore_n dM_plan_101 (by decide) (q := 102) rfl ?_
          refine pm_iincL dM_plan_102 rfl (by decide) (y := nI (i + 1)) (by rw [nI_succ]; rfl) (q := 105) rfl ?_
          refine pm_goto (tgt := 58) dM_plan_105 rfl ?_
          exact nx
        | some v =>
          rw [hw] at el nx
          have el : _ = nI v := el
          have hv9 := bo_bnd _ _ _ _ hw
          have e0 : Option.map (fun v => v + cost pE (A 0)[i]) (some v) = some v := by
            show some (v + cost pE (A 0)[i]) = some v
            rw [cost_pE, Nat.add_zero]
          rw [e0] at nx
          cases ac with
          | none =>
            refine pm_iload_n dM_plan_58 rfl (q := 59) rfl ?_
            refine pm_aload_n dM_plan_59 rfl (q := 60) rfl ?_
            refine pm_get fl_M_54 dM_plan_60 rfl rfl (q := 63) rfl ?_
            refine pm_iconst (x := 0) dM_plan_63 (by decide) (q := 64) rfl ?_
            refine pm_ialdN (j := 0) dM_plan_64 rfl (by decide) (Nat.le_of_ble_eq_true rfl) (q := 65) rfl ?_
            refine pm_topL (y := nI (A 0).length) hl0.1 ?_
            refine pm_icmp_ge (tgt := 108) dM_plan_65 rfl (q := 68) rfl (fun z => absurd z (nI_ge hi9 (by omega))) (fun _ => ?_)
            refine pm_aload_n dM_plan_68 rfl (q := 69) rfl ?_
            refine pm_get fl_M_51 dM_plan_69 rfl rfl (q := 72) rfl ?_
            refine pm_iload_n dM_plan_72 rfl (q := 73) rfl ?_
            refine pm_ialdN dM_plan_73 rfl hidx (Nat.le_of_ble_eq_true rfl) (q := 74) rfl ?_
            refine pm_topL (y := nI v) el ?_
            refine pm_if_lt (tgt := 100) dM_plan_74 rfl (q := 77) rfl (fun z => absurd z (nI_pos (by omega))) (fun _ => ?_)
            refine pm_iload_n dM_plan_77 rfl (q := 78) rfl ?_
            refine pm_if_lt (tgt := 91) dM_plan_78 rfl (q := 81) rfl (fun _ => ?_) (fun z => absurd (by decide) z)
            refine pm_aload_n dM_plan_91 rfl (q := 92) rfl ?_
            refine pm_get fl_M_51 dM_plan_92 rfl rfl (q := 95) rfl ?_
            refine pm_iload_n dM_plan_95 rfl (q := 96) rfl ?_
            refine pm_ialdN dM_plan_96 rfl hidx (Nat.le_of_ble_eq_true rfl) (q := 97) rfl ?_
            refine pm_topL (y := nI v) el ?_
            refine pm_goto (tgt := 101) dM_plan_97 rfl ?_
            refine pm_istore_n dM_plan_101 (by decide) (q := 102) rfl ?_
            refine pm_iincL dM_plan_102 rfl (by decide) (y := nI (i + 1)) (by rw [nI_succ]; rfl) (q := 105) rfl ?_
            refine pm_goto (tgt := 58) dM_plan_105 rfl ?_
            exact nx
          | some a =>
            have ha9 := hab a rfl
            have e1 : oMin (some a) (some v) = some (if v < a then v else a) := rfl
            rw [e1] at nx
            have na : ¬ oI (some a) < 0 := nI_pos (by omega)
            by_cases lt : v < a
            · rw [if_pos lt] at nx
              refine pm_iload_n dM_plan_58 rfl (q := 59) rfl ?_
              refine pm_aload_n dM_plan_59 rfl (q := 60) rfl ?_
              refine pm_get fl_M_54 dM_plan_60 rfl rfl (q := 63) rfl ?_
              refine pm_iconst (x := 0) dM_plan_63 (by decide) (q := 64) rfl ?_
              refine pm_ialdN (j := 0) dM_plan_64 rfl (by decide) (Nat.le_of_ble_eq_true rfl) (q := 65) rfl ?_
              refine pm_topL (y := nI (A 0).length) hl0.1 ?_
              refine pm_icmp_ge (tgt := 108) dM_plan_65 rfl (q := 68) rfl (fun z => absurd z (nI_ge hi9 (by omega))) (fun _ => ?_)
              refine pm_aload_n dM_plan_68 rfl (q := 69) rfl ?_
              refine pm_get fl_M_51 dM_plan_69 rfl rfl (q := 72) rfl ?_
              refine pm_iload_n dM_plan_72 rfl (q := 73) rfl ?_
              refine pm_ialdN dM_plan_73 rfl hidx (Nat.le_of_ble_eq_true rfl) (q := 74) rfl ?_
              refine pm_topL (y := nI v) el ?_
              refine pm_if_lt (tgt := 100) dM_plan_74 rfl (q := 77) rfl (fun z => absurd z (nI_pos (by omega))) (fun _ => ?_)
              refine pm_iload_n dM_plan_77 rfl (q := 78) rfl ?_
              refine pm_if_lt (tgt := 91) dM_plan_78 rfl (q := 81) rfl (fun z => absurd z na) (fun _ => ?_)
              refine pm_aload_n dM_plan_81 rfl (q := 82) rfl ?_
              refine pm_get fl_M_51 dM_plan_82 rfl rfl (q := 85) rfl ?_
              refine pm_iload_n dM_plan_85 rfl (q := 86) rfl ?_
              refine pm_ialdN dM_plan_86 rfl hidx (Nat.le_of_ble_eq_true rfl) (q := 87) rfl ?_
              refine pm_topL (y := nI v) el ?_
              refine pm_iload_n dM_plan_87 rfl (q := 88) rfl ?_
              refine pm_icmp_ge (tgt := 100) dM_plan_88 rfl (q := 91) rfl (fun z => absurd z (show ¬ nI a ≤ nI v from nI_ge lt (by omega))) (fun _ => ?_)
              refine pm_aload_n dM_plan_91 rfl (q := 92) rfl ?_
              refine pm_get fl_M_51 dM_plan_92 rfl rfl (q := 95) rfl ?_
              refine pm_iload_n dM_plan_95 rfl (q := 96) rfl ?_
              refine pm_ialdN dM_plan_96 rfl hidx (Nat.le_of_ble_eq_true rfl) (q := 97) rfl ?_
              refine pm_topL (y := nI v) el ?_
              refine pm_goto (tgt := 101) dM_plan_97 rfl ?_
              refine pm_istore_n dM_plan_101 (by decide) (q := 102) rfl ?_
              refine pm_iincL dM_plan_102 rfl (by decide) (y := nI (i + 1)) (by rw [nI_succ]; rfl) (q := 105) rfl ?_
              refine pm_goto (tgt := 58) dM_plan_105 rfl ?_
              exact nx
            · rw [if_neg lt] at nx
              refine pm_iload_n dM_plan_58 rfl (q := 59) rfl ?_
              refine pm_aload_n dM_plan_59 rfl (q := 60) rfl ?_
              refine pm_get fl_M_54 dM_plan_60 rfl rfl (q := 63) rfl ?_
              refine pm_iconst (x := 0) dM_plan_63 (by decide) (q := 64) rfl ?_
              refine pm_ialdN (j := 0) dM_plan_64 rfl (by decide) (Nat.le_of_ble_eq_true rfl) (q := 65) rfl ?_
              refine pm_topL (y := nI (A 0).length) hl0.1 ?_
              refine pm_icmp_ge (tgt := 108) dM_plan_65 rfl (q := 68) rfl (fun z => absurd z (nI_ge hi9 (by omega))) (fun _ => ?_)
              refine pm_aload_n dM_plan_68 rfl (q := 69) rfl ?_
              refine pm_get fl_M_51 dM_plan_69 rfl rfl (q := 72) rfl ?_
              refine pm_iload_n dM_plan_72 rfl (q := 73) rfl ?_
              refine pm_ialdN dM_plan_73 rfl hidx (Nat.le_of_ble_eq_true rfl) (q := 74) rfl ?_
              refine pm_topL (y := nI v) el ?_
              refine pm_if_lt (tgt := 100) dM_plan_74 rfl (q := 77) rfl (fun z => absurd z (nI_pos (by omega))) (fun _ => ?_)
              refine pm_iload_n dM_plan_77 rfl (q := 78) rfl ?_
              refine pm_if_lt (tgt := 91) dM_plan_78 rfl (q := 81) rfl (fun z => absurd z na) (fun _ => ?_)
              refine pm_aload_n dM_plan_81 rfl (q := 82) rfl ?_
              refine pm_get fl_M_51 dM_plan_82 rfl rfl (q := 85) rfl ?_
              refine pm_iload_n dM_plan_85 rfl (q := 86) rfl ?_
              refine pm_ialdN dM_plan_86 rfl hidx (Nat.le_of_ble_eq_true rfl) (q := 87) rfl ?_
              refine pm_topL (y := nI v) el ?_
              refine pm_iload_n dM_plan_87 rfl (q := 88) rfl ?_
              refine pm_icmp_ge (tgt := 100) dM_plan_88 rfl (q := 91) rfl (fun _ => ?_) (fun z => absurd (show nI a ≤ nI v from nI_le (by omega) (by omega)) z)
              refine pm_iload_n dM_plan_100 rfl (q := 101) rfl ?_
              refine pm_istore_n dM_plan_101 (by decide) (q := 102) rfl ?_
              refine pm_iincL dM_plan_102 rfl (by decide) (y := nI (i + 1)) (by rw [nI_succ]; rfl) (q := 105) rfl ?_
              refine pm_goto (tgt := 58) dM_plan_105 rfl ?_
              exact nx
    have h58 := hB (A 0).length 0 (by omega)
    rw [List.take_zero] at h58
    have h39 := b2 K G hK (by
      refine pm_iload_n dM_plan_39 rfl (q := 40) rfl ?_
      refine pm_if_lt (tgt := 54) dM_plan_40 rfl (q := 43) rfl (fun _ => ?_) (fun z => absurd (by decide) z)
      refine pm_iconst (x := -1) dM_plan_54 (by decide) (q := 55) rfl ?_
      refine pm_istore_n dM_plan_55 (by decide) (q := 56) rfl ?_
      refine pm_iconst (x := 0) dM_plan_56 (by decide) (q := 57) rfl ?_
      refine pm_istore_n dM_plan_57 (by decide) (q := 58) rfl ?_
      exact h58)
    have h11 := g3 K G hK (by
      refine pm_iload_n dM_plan_11 rfl (q := 12) rfl ?_
      refine pm_aload_n dM_plan_12 rfl (q := 13) rfl ?_
      refine pm_get fl_M_16 dM_plan_13 rfl rfl (q := 16) rfl ?_
      refine pm_iconst (x := 1) dM_plan_16 (by decide) (q := 17) rfl ?_
      refine pm_isub dM_plan_17 (q := 18) rfl ?_
      refine pm_topL (y := nI D) eD ?_
      refine pm_icmp_ge (tgt := 32) dM_plan_18 rfl (q := 21) rfl (fun _ => ?_) (fun z => absurd (nI_le (Nat.le_refl _) (by omega)) z)
      refine pm_aload_n dM_plan_32 rfl (q := 33) rfl ?_
      refine pm_get fl_M_16 dM_plan_33 rfl rfl (q := 36) rfl ?_
      refine pm_iconst (x := 2) dM_plan_36 (by decide) (q := 37) rfl ?_
      refine pm_isub dM_plan_37 (q := 38) rfl ?_
      refine pm_topL (y := nI D - 1) eD2 ?_
      refine pm_istore_n dM_plan_38 (by decide) (q := 39) rfl ?_
      exact h39)
    refine pm_aload_n dM_plan_0 rfl (q := 1) rfl ?_
    refine pm_iconst (x := 0) dM_plan_1 (by decide) (q := 2) rfl ?_
    refine pm_put fp_M_82 dM_plan_2 rfl (Nat.le_of_ble_eq_true rfl) (fun _ => rfl) (fun _ => rfl) (q := 5) rfl ?_
    refine pm_aload_n dM_plan_5 rfl (q := 6) rfl ?_
    refine pm_cV0v hK (kM_noPlan (pd := pd) (si := si) (sa := sa) (hv := hv) (ha := ha) (sl := sl) (sc := sc) (pl := pl) (pa := pa) (mi := up1 mi 0 0) (ma := ma) (tl := tl) hl 1 (Nat.le_refl _)) mo_M_noPlan im_M_noPlan se_M_noPlan lk_M_103 dM_plan_6 (by omega) (Nat.le_of_ble_eq_true rfl) (Nat.zero_le _) (Nat.zero_le _) rfl rfl rfl (q := 9) rfl ?_
    refine pm_iconst (x := 0) dM_plan_9 (by decide) (q := 10) rfl ?_
    refine pm_istore_n dM_plan_10 (by decide) (q := 11) rfl ?_
    exact h11
  refine ⟨up1 ma2 7 f7, fun x h6 h7 h8 h9 => by rw [← g1 x h6 h7 h8 h9]; exact if_neg h7, ?_⟩
  cases hbo : bo A D 0 pE with
  | none =>
    refine Or.inr ⟨rfl, W0 _ _ (fun K G hK hret o2 => ?_)⟩
    rw [hbo]
    refine pm_iload_n dM_plan_108 rfl (q := 109) rfl ?_
    refine pm_if_ge (tgt := 114) dM_plan_109 rfl (q := 112) rfl (fun z => absurd z (by decide)) (fun _ => ?_)
    refine pm_iconst (x := -1) dM_plan_112 (by decide) (q := 113) rfl ?_
    exact pm_retI hret dM_plan_113 rfl
  | some m =>
    have hmb := bo_bnd _ _ _ _ hbo
    have hne : ∀ q, q < D → ¬ A q = [] := fun q hq z => by
      have := bo_none (A := A) D 0 pE ⟨q, Nat.zero_le _, by omega, z⟩
      rw [hbo] at this
      cases this
    have hRl : (mvAll 0 pE (pick A D 0 pE)).length ≤ 30 := by
      have := mvAll_len (pick A D 0 pE) 0 pE (fun N hN => by obtain ⟨q, _, h2, h3⟩ := pick_mem D 0 pE N hN; have := hA q (by omega) N h3; exact pLen_le5 this.1 this.2.2)
      rw [pick_len D 0 pE (fun q _ b => hne q (by omega)), pLen_pE] at this
      omega
    refine Or.inl ⟨m, rfl, W0 _ _ (fun K G hK hret o2 => ?_)⟩
    rw [hbo]
    have hO : ∀ (c q lf : Nat) (L : pL) (R0 : List pQ) (o5 : Option Value), c + q = D → pOk L T → (∀ b, ct L b ≤ 1) → bo A c q L = some lf → R0 ++ mvAll q L (pick A c q L) = (mvAll 0 pE (pick A D 0 pE)) → pm_Go mM_plan K G 126 [some (.ref 31), some (.int (nI m)), some (.int (cM L)), some (.int (nI lf)), some (.int (nI q)), o5] [] (cH pd si sa hv ha sl sc pl pa (mH (up1 (up1 (up1 (up1 (up1 mi 0 0) 18 0) 19 0) 18 1) 19 (nI R0.length)) (maW (up1 ma2 7 f7) 0 R0) tl)) 0 0 := by
      intro c
      induction c with
      | zero =>
        intro q lf L R0 o5 hq hL h1 hb hR
        have hq : q = D := by omega
        subst hq
        have hR : R0 ++ mvs L pE q = (mvAll 0 pE (pick A q 0 pE)) := hR
        have w := kM_change (pd := pd) (si := si) (sa := sa) (hv := hv) (ha := ha) (sl := sl) (sc := sc) (pl := pl) (pa := pa) (mi := (up1 (up1 (up1 (up1 (up1 mi 0 0) 18 0) 19 0) 18 1) 19 (nI R0.length))) (ma := maW (up1 ma2 7 f7) 0 R0) (tl := tl) hl 2 (Nat.le_refl _) R0.length q hT3 hL (pE_ok T) (by rw [← List.length_append, hR]; omega) rfl
        rw [up1_up1, ← List.length_append] at w
        have e2 := maW_app (up1 ma2 7 f7) 0 R0 (mvs L pE q)
        rw [Nat.zero_add] at e2
        rw [e2, hR, cM_E] at w
        refine pm_iload dM_plan_126 rfl (q := 128) rfl ?_
        refine pm_aload_n dM_plan_128 rfl (q := 129) rfl ?_
        refine pm_get fl_M_16 dM_plan_129 rfl rfl (q := 132) rfl ?_
        refine pm_iconst (x := 1) dM_plan_132 (by decide) (q := 133) rfl ?_
        refine pm_isub dM_plan_133 (q := 134) rfl ?_
        refine pm_topL (y := nI q) eD ?_
        refine pm_icmp_ge (tgt := 183) dM_plan_134 rfl (q := 137) rfl (fun _ => ?_) (fun z => absurd (nI_le (Nat.le_refl _) (by omega)) z)
        refine pm_aload_n dM_plan_183 rfl (q := 184) rfl ?_
        refine pm_iload_n dM_plan_184 rfl (q := 185) rfl ?_
        refine pm_iconst (x := 0) dM_plan_185 (by decide) (q := 186) rfl ?_
        refine pm_aload_n dM_plan_186 rfl (q := 187) rfl ?_
        refine pm_get fl_M_16 dM_plan_187 rfl rfl (q := 190) rfl ?_
        refine pm_iconst (x := 1) dM_plan_190 (by decide) (q := 191) rfl ?_
        refine pm_isub dM_plan_191 (q := 192) rfl ?_
        refine pm_topL (y := nI q) eD ?_
        refine pm_cV3v hK (w) mo_M_change im_M_change se_M_change lk_M_175 dM_plan_192 (by omega) (Nat.le_of_ble_eq_true rfl) (Nat.zero_le _) (Nat.zero_le _) rfl rfl rfl (q := 195) rfl ?_
        refine pm_iload_n dM_plan_195 rfl (q := 196) rfl ?_
        exact pm_retI hret dM_plan_196 rfl
      | succ c ih =>
        intro q lf L R0 o5 hq hL h1 hb hR
        have hl9 : mlI A (maW (up1 ma2 7 f7) 0 R0) q := g2 q (by omega)
        have ek : D - 1 - q = c := by omega
        have hb9 : ∀ i, (h : i < (A q).length) → maW (up1 ma2 7 f7) 0 R0 7 (2600 * q + i) = oI (bo A c (q + 1) ((A q)[i])) := by
          intro i h
          show f7 (2600 * q + i) = _
          rw [b1 q (Nat.zero_le _) (by omega) i h]
          unfold bh
          rw [ek]
        obtain ⟨i, hi, hfi, hw⟩ := kM_choose (pd := pd) (si := si) (sa := sa) (hv := hv) (ha := ha) (sl := sl) (sc := sc) (pl := pl) (pa := pa) (mi := (up1 (up1 (up1 (up1 (up1 mi 0 0) 18 0) 19 0) 18 1) 19 (nI R0.length))) (ma := maW (up1 ma2 7 f7) 0 R0) (tl := tl) hl 3 (Nat.le_refl _) hT3 A (n := c) hL h1 (fun N hN => (hA q (by omega) N hN).1) (by omega) (by omega) hl9 hb9 hb
        have hcl := hl9.2.1
        have hidx : 2600 * q + i < 7800 := by omega
        have hNA := hA q (by omega) _ (List.getElem_mem hi)
        have ef := hl9.2.2 i hi
        have el := hb9 i hi
        have hB := List.find?_some hfi
        have epk : pick A (c + 1) q L = (A q)[i] :: pick A c (q + 1) ((A q)[i]) := by rw [pick, hfi]
        rw [epk] at hR
        generalize (A q)[i] = N at *
        cases hwv : bo A c (q + 1) N with
        | none =>
          have := of_decide_eq_true hB
          rw [hwv, hb] at this
          cases this
        | some v =>
          rw [hwv] at el
          have hR : R0 ++ (mvs L N q ++ mvAll (q + 1) N (pick A c (q + 1) N)) = (mvAll 0 pE (pick A D 0 pE)) := hR
          rw [← List.append_assoc] at hR
          have hcap : R0.length + (mvs L N q).length ≤ 60 := by rw [← hR, List.length_append, List.length_append] at hRl; omega
          have w := kM_change (pd := pd) (si := si) (sa := sa) (hv := hv) (ha := ha) (sl := sl) (sc := sc) (pl := pl) (pa := pa) (mi := (up1 (up1 (up1 (up1 (up1 mi 0 0) 18 0) 19 0) 18 1) 19 (nI R0.length))) (ma := maW (up1 ma2 7 f7) 0 R0) (tl := tl) hl 2 (Nat.le_refl _) R0.length q hT3 hL hNA.1 hcap rfl
          rw [up1_up1, ← List.length_append] at w
          have e2 := maW_app (up1 ma2 7 f7) 0 R0 (mvs L N q)
          rw [Nat.zero_add] at e2
          rw [e2] at w
          have nx := ih (q + 1) v N (R0 ++ mvs L N q) (some (.int (nI (2600 * q + i)))) (by omega) hNA.1 hNA.2.2 hwv hR
          have el2 : maW (up1 ma2 7 f7) 0 (R0 ++ mvs L N q) 7 (2600 * q + i) = nI v := el
          have ef2 : maW (up1 ma2 7 f7) 0 (R0 ++ mvs L N q) 6 (2600 * q + i) = cM N := ef
          refine pm_iload dM_plan_126 rfl (q := 128) rfl ?_
          refine pm_aload_n dM_plan_128 rfl (q := 129) rfl ?_
          refine pm_get fl_M_16 dM_plan_129 rfl rfl (q := 132) rfl ?_
          refine pm_iconst (x := 1) dM_plan_132 (by decide) (q := 133) rfl ?_
          refine pm_isub dM_plan_133 (q := 134) rfl ?_
          refine pm_topL (y := nI D) eD ?_
          refine pm_icmp_ge (tgt := 183) dM_plan_134 rfl (q := 137) rfl (fun z => absurd z (nI_ge (by omega) (by omega))) (fun _ => ?_)
          refine pm_aload_n dM_plan_137 rfl (q := 138) rfl ?_
          refine pm_iload dM_plan_138 rfl (q := 140) rfl ?_
          refine pm_iload_n dM_plan_140 rfl (q := 141) rfl ?_
          refine pm_iload_n dM_plan_141 rfl (q := 142) rfl ?_
          refine pm_cV3i hK (hw) mo_M_choose im_M_choose se_M_choose lk_M_172 dM_plan_142 (by omega) (Nat.le_of_ble_eq_true rfl) (Nat.zero_le _) (Nat.zero_le _) rfl rfl rfl (q := 145) rfl ?_
          refine pm_istore dM_plan_145 (by decide) (q := 147) rfl ?_
          refine pm_aload_n dM_plan_147 rfl (q := 148) rfl ?_
          refine pm_iload_n dM_plan_148 rfl (q := 149) rfl ?_
          refine pm_aload_n dM_plan_149 rfl (q := 150) rfl ?_
          refine pm_get fl_M_48 dM_plan_150 rfl rfl (q := 153) rfl ?_
          refine pm_iload dM_plan_153 rfl (q := 155) rfl ?_
          refine pm_ialdN dM_plan_155 rfl hidx (Nat.le_of_ble_eq_true rfl) (q := 156) rfl ?_
          refine pm_topL (y := cM N) ef ?_
          refine pm_iload dM_plan_156 rfl (q := 158) rfl ?_
          refine pm_cV3v hK (w) mo_M_change im_M_change se_M_change lk_M_175 dM_plan_158 (by omega) (Nat.le_of_ble_eq_true rfl) (Nat.zero_le _) (Nat.zero_le _) rfl rfl rfl (q := 161) rfl ?_
          refine pm_aload_n dM_plan_161 rfl (q := 162) rfl ?_
          refine pm_get fl_M_48 dM_plan_162 rfl rfl (q := 165) rfl ?_
          refine pm_iload dM_plan_165 rfl (q := 167) rfl ?_
          refine pm_ialdN dM_plan_167 rfl hidx (Nat.le_of_ble_eq_true rfl) (q := 168) rfl ?_
          refine pm_topL (y := cM N) ef2 ?_
          refine pm_istore_n dM_plan_168 (by decide) (q := 169) rfl ?_
          refine pm_aload_n dM_plan_169 rfl (q := 170) rfl ?_
          refine pm_get fl_M_51 dM_plan_170 rfl rfl (q := 173) rfl ?_
          refine pm_iload dM_plan_173 rfl (q := 175) rfl ?_
          refine pm_ialdN dM_plan_175 rfl hidx (Nat.le_of_ble_eq_true rfl) (q := 176) rfl ?_
          refine pm_topL (y := nI v) el2 ?_
          refine pm_istore_n dM_plan_176 (by decide) (q := 177) rfl ?_
          refine pm_iincL dM_plan_177 rfl (by decide) (y := nI (q + 1)) (by rw [nI_succ]; rfl) (q := 180) rfl ?_
          refine pm_goto (tgt := 126) dM_plan_180 rfl ?_
          exact nx
    have h0 := hO D 0 m pE [] none (by omega) (pE_ok T) ct_E hbo rfl
    rw [maW_nil, cM_E, List.length_nil] at h0
    refine pm_iload_n dM_plan_108 rfl (q := 109) rfl ?_
    refine pm_if_ge (tgt := 114) dM_plan_109 rfl (q := 112) rfl (fun _ => ?_) (fun z => absurd (nI_z m (by omega)) z)
    refine pm_aload_n dM_plan_114 rfl (q := 115) rfl ?_
    refine pm_iconst (x := 1) dM_plan_115 (by decide) (q := 116) rfl ?_
    refine pm_put fp_M_85 dM_plan_116 rfl (Nat.le_of_ble_eq_true rfl) (fun _ => rfl) (fun _ => rfl) (q := 119) rfl ?_
    refine pm_iconst (x := 0) dM_plan_119 (by decide) (q := 120) rfl ?_
    refine pm_istore_n dM_plan_120 (by decide) (q := 121) rfl ?_
    refine pm_iload_n dM_plan_121 rfl (q := 122) rfl ?_
    refine pm_istore_n dM_plan_122 (by decide) (q := 123) rfl ?_
    refine pm_iconst (x := 0) dM_plan_123 (by decide) (q := 124) rfl ?_
    refine pm_istore dM_plan_124 (by decide) (q := 126) rfl ?_
    exact h0
