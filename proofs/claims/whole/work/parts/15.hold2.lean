/-! what a hold holds, and whether it is sound -/
theorem nI_addm (a b : Nat) : nI a + nI b = nI (a + b) := (Int32.ofNat_add a b).symm
theorem nI_mulm (a b : Nat) : nI a * nI b = nI (a * b) := (Int32.ofNat_mul a b).symm
theorem nI_st (a b : Nat) : nI a * 3 + nI b = nI (a * 3 + b) := by
  rw [show (3 : Int32) = nI 3 from rfl, nI_mulm, nI_addm]
/-- heights and boxes as they must be, so that no place is out of reach -/
def HoldOk (si f g : Nat → Int32) (S : Nat) : Prop := si 0 = nI S ∧ S ≤ 3 ∧ ∀ s, s < 3 → ∃ k, k ≤ 3 ∧ g s = nI k ∧ ∀ j, j < k → vp_in (f (s * 3 + j)) 5
def fho (f kd : Nat → Int32) (s : Nat) (k : Int32) : Nat → Nat → Int32
  | 0, _ => 0
  | m + 1, j => if kd (f (s * 3 + j)).toNatClampNeg = k then 1 else fho f kd s k m (j + 1)
theorem fho_b (f kd : Nat → Int32) (s : Nat) (k : Int32) : ∀ m j, narrow .boolean (.int (fho f kd s k m j)) = .int (fho f kd s k m j) := by
  intro m
  induction m with
  | zero => intro j; rw [fho]; rfl
  | succ m ih =>
    intro j
    unfold fho
    split
    · rfl
    · exact ih _
def fhl (si f g kd : Nat → Int32) (s k : Int32) : Int32 := if s < 0 then 0 else if s < si 0 then fho f kd s.toNatClampNeg k (g s.toNatClampNeg).toNatClampNeg 0 else 0
theorem fhl_b (si f g kd : Nat → Int32) (s k : Int32) : narrow .boolean (.int (fhl si f g kd s k)) = .int (fhl si f g kd s k) := by
  unfold fhl; split
  · rfl
  · split
    · exact fho_b _ _ _ _ _ _
    · rfl
theorem nI_lt_ex {x : Int32} {S : Nat} (h0 : ¬ x < 0) (h1 : x < nI S) (hS : S < 2 ^ 31) : ∃ j, j < S ∧ x = nI j := by
  refine vp_in_of (vp_in_iff.mpr ?_) hS
  rw [Int32.lt_iff_toInt_lt, Int32.toInt_zero] at h0
  rw [Int32.lt_iff_toInt_lt, nI_toInt hS] at h1
  omega
set_option maxHeartbeats 2000000 in
theorem kH_holds {l : Launch} (hl : l.stackTraces = false) (d : Nat) {h : pm_H} {t : Nat} {si : Nat → Int32} {sa : Nat → Nat → Int32} {v : Int32} {f g u : Nat → Int32} (HA : HoldAt h t si sa v f g u) {S : Nat} (HO : HoldOk si f g S) (s k : Int32) : pm_Sem l d mH_holds [.ref t, .int s, .int k] h (some (.int (fhl si f g (sa 4) s k))) h := by
  refine pm_sem hl mo_H_holds ⟨_, rfl, fhl_b _ _ _ _ _ _⟩ rfl rfl (Nat.le_of_ble_eq_true rfl) (fun K G hK hret => ?_)
  obtain ⟨hT, hF, hG, hU, hS, hPl, hFr, hTo, hWt, hKd, hRo⟩ := id HA
  obtain ⟨ho1, ho2, ho3⟩ := HO
  refine pm_iload_n dH_holds_0 rfl (q := 1) rfl ?_
  refine pm_if_lt (tgt := 15) dH_holds_1 rfl (q := 4) rfl (fun h1 => ?_) (fun h1 => ?_)
  · refine pm_iconst (x := 0) dH_holds_15 (by decide) (q := 16) rfl ?_
    exact pm_retI hret dH_holds_16 (by simp [fhl, h1])
  refine pm_iload_n dH_holds_4 rfl (q := 5) rfl ?_
  refine pm_aload_n dH_holds_5 rfl (q := 6) rfl ?_
  refine pm_get fl_H_21 dH_holds_6 hT rfl (q := 9) rfl ?_
  refine pm_get fl_H_92 dH_holds_9 hS rfl (q := 12) rfl ?_
  refine pm_icmp_lt (tgt := 17) dH_holds_12 rfl (q := 15) rfl (fun h12 => ?_) (fun h12 => ?_)
  rotate_left
  · refine pm_iconst (x := 0) dH_holds_15 (by decide) (q := 16) rfl ?_
    exact pm_retI hret dH_holds_16 (by simp [fhl, h1, h12])
  obtain ⟨a, ha, rfl⟩ := nI_lt_ex h1 (by rw [← ho1]; exact h12) (by omega)
  obtain ⟨b, hb, hg, hbx⟩ := ho3 a (by omega)
  have ca : (nI a).toNatClampNeg = a := nI_clamp (by omega)
  have hr9 : fhl si f g (sa 4) (nI a) k = fho f (sa 4) a k b 0 := by
    rw [fhl, if_neg h1, if_pos h12, ca, hg, nI_clamp (by omega)]
  have hL : ∀ (m j : Nat), m + j = b → fho f (sa 4) a k m j = fhl si f g (sa 4) (nI a) k → pm_Go mH_holds K G 19 [some (.ref t), some (.int (nI a)), some (.int k), some (.int (nI j))] [] h 0 0 := by
    intro m
    induction m with
    | zero =>
      intro j hj hr
      have hj : j = b := by omega
      subst hj
      refine pm_iload_n dH_holds_19 rfl (q := 20) rfl ?_
      refine pm_aload_n dH_holds_20 rfl (q := 21) rfl ?_
      refine pm_get fl_H_15 dH_holds_21 hT rfl (q := 24) rfl ?_
      refine pm_iload_n dH_holds_24 rfl (q := 25) rfl ?_
      refine pm_ialdN dH_holds_25 hG (by omega) (Nat.le_of_ble_eq_true rfl) (q := 26) rfl ?_
      refine pm_icmp_ge (tgt := 59) dH_holds_26 rfl (q := 29) rfl (fun _ => ?_) (fun z => absurd (by rw [hg]; exact nI_le (Nat.le_refl _) (by omega)) z)
      refine pm_iconst (x := 0) dH_holds_59 (by decide) (q := 60) rfl ?_
      exact pm_retI hret dH_holds_60 hr
    | succ m ih =>
      intro j hj hr
      have hjb : j < b := by omega
      rw [fho] at hr
      refine pm_iload_n dH_holds_19 rfl (q := 20) rfl ?_
      refine pm_aload_n dH_holds_20 rfl (q := 21) rfl ?_
      refine pm_get fl_H_15 dH_holds_21 hT rfl (q := 24) rfl ?_
      refine pm_iload_n dH_holds_24 rfl (q := 25) rfl ?_
      refine pm_ialdN dH_holds_25 hG (by omega) (Nat.le_of_ble_eq_true rfl) (q := 26) rfl ?_
      refine pm_icmp_ge (tgt := 59) dH_holds_26 rfl (q := 29) rfl (fun z => absurd z (by rw [hg]; exact nI_ge hjb (by omega))) (fun _ => ?_)
      refine pm_aload_n dH_holds_29 rfl (q := 30) rfl ?_
      refine pm_get fl_H_21 dH_holds_30 hT rfl (q := 33) rfl ?_
      refine pm_get fl_H_125 dH_holds_33 hS rfl (q := 36) rfl ?_
      refine pm_aload_n dH_holds_36 rfl (q := 37) rfl ?_
      refine pm_get fl_H_9 dH_holds_37 hT rfl (q := 40) rfl ?_
      refine pm_iload_n dH_holds_40 rfl (q := 41) rfl ?_
      refine pm_iconst (x := 3) dH_holds_41 (by decide) (q := 42) rfl ?_
      refine pm_imul dH_holds_42 (q := 43) rfl ?_
      refine pm_iload_n dH_holds_43 rfl (q := 44) rfl ?_
      refine pm_iadd dH_holds_44 (q := 45) rfl ?_
      refine pm_topL (y := nI (a * 3 + j)) (nI_st a j) ?_
      refine pm_ialdN dH_holds_45 hF (by omega) (Nat.le_of_ble_eq_true rfl) (q := 46) rfl ?_
      refine pm_iald dH_holds_46 hKd (hbx j hjb) (q := 47) rfl ?_
      refine pm_iload_n dH_holds_47 rfl (q := 48) rfl ?_
      refine pm_icmp_ne (tgt := 53) dH_holds_48 rfl (q := 51) rfl (fun h48 => ?_) (fun h48 => ?_)
      · refine pm_iincL dH_holds_53 rfl (by decide) (y := nI (j + 1)) (by rw [nI_succ]; rfl) (q := 56) rfl ?_
        refine pm_goto (tgt := 19) dH_holds_56 rfl ?_
        exact ih (j + 1) (by omega) (by rw [← hr, if_neg h48])
      · refine pm_iconst (x := 1) dH_holds_51 (by decide) (q := 52) rfl ?_
        exact pm_retI hret dH_holds_52 (by rw [← hr, if_pos h48])
  refine pm_iconst (x := 0) dH_holds_17 (by decide) (q := 18) rfl ?_
  refine pm_istore_n dH_holds_18 (by decide) (q := 19) rfl ?_
  exact hL b 0 (by omega) hr9.symm
def fss (si f g u : Nat → Int32) (sa : Nat → Nat → Int32) (s : Nat) : Int32 :=
  if u s ≤ si 3 ∧ ¬ (fhl si f g (sa 4) (nI s) 1 ≠ 0 ∧ sa 0 s = 0) ∧ ¬ (fhl si f g (sa 4) (nI s) 2 ≠ 0 ∧ (fhl si f g (sa 4) (nI s - 1) 3 ≠ 0 ∨ fhl si f g (sa 4) (nI s) 3 ≠ 0 ∨ fhl si f g (sa 4) (nI s + 1) 3 ≠ 0)) then 1 else 0
theorem fss_b (si f g u : Nat → Int32) (sa : Nat → Nat → Int32) (s : Nat) : narrow .boolean (.int (fss si f g u sa s)) = .int (fss si f g u sa s) := by
  unfold fss; split <;> rfl
set_option maxHeartbeats 8000000 in
theorem kH_isSoundStack {l : Launch} (hl : l.stackTraces = false) (d : Nat) (hd : 1 ≤ d) {h : pm_H} {t : Nat} {si : Nat → Int32} {sa : Nat → Nat → Int32} {v : Int32} {f g u : Nat → Int32} (HA : HoldAt h t si sa v f g u) {S : Nat} (HO : HoldOk si f g S) (s : Nat) (hs : s < 3) : pm_Sem l d mH_isSoundStack [.ref t, .int (nI s)] h (some (.int (fss si f g u sa s))) h := by
  refine pm_sem hl mo_H_isSoundStack ⟨_, rfl, fss_b _ _ _ _ _ _⟩ rfl rfl (Nat.le_of_ble_eq_true rfl) (fun K G hK hret => ?_)
  obtain ⟨hT, hF, hG, hU, hS, hPl, hFr, hTo, hWt, hKd, hRo⟩ := id HA
  have hC : ∀ o, pm_Go mH_isSoundStack K G 72 [some (.ref t), some (.int (nI s)), some (.int (if fhl si f g (sa 4) (nI s) 1 ≠ 0 ∧ sa 0 s = 0 then (1 : Int32) else 0)), o] [.int (if fhl si f g (sa 4) (nI s) 2 ≠ 0 ∧ (fhl si f g (sa 4) (nI s - 1) 3 ≠ 0 ∨ fhl si f g (sa 4) (nI s) 3 ≠ 0 ∨ fhl si f g (sa 4) (nI s + 1) 3 ≠ 0) then (1 : Int32) else 0)] h 0 0 := by
    intro o
    refine pm_istore_n dH_isSoundStack_72 (by decide) (q := 73) rfl ?_
    refine pm_aload_n dH_isSoundStack_73 rfl (q := 74) rfl ?_
    refine pm_get fl_H_18 dH_isSoundStack_74 hT rfl (q := 77) rfl ?_
    refine pm_iload_n dH_isSoundStack_77 rfl (q := 78) rfl ?_
    refine pm_ialdN dH_isSoundStack_78 hU (hs) (Nat.le_of_ble_eq_true rfl) (q := 79) rfl ?_
    refine pm_aload_n dH_isSoundStack_79 rfl (q := 80) rfl ?_
    refine pm_get fl_H_21 dH_isSoundStack_80 hT rfl (q := 83) rfl ?_
    refine pm_get fl_H_74 dH_isSoundStack_83 hS rfl (q := 86) rfl ?_
    refine pm_icmp_gt (tgt := 101) dH_isSoundStack_86 rfl (q := 89) rfl (fun h86 => ?_) (fun h86 => ?_)
    · refine pm_iconst (x := 0) dH_isSoundStack_101 (by decide) (q := 102) rfl ?_
      exact pm_retI hret dH_isSoundStack_102 (by first | (simp_all [fss]; done) | (rw [fss, if_neg (fun z => Int32.not_lt.mpr z.1 h86)]))
    · refine pm_iload_n dH_isSoundStack_89 rfl (q := 90) rfl ?_
      refine pm_if_ne (tgt := 101) dH_isSoundStack_90 rfl (q := 93) rfl (fun h90 => ?_) (fun h90 => ?_)
      · refine pm_iconst (x := 0) dH_isSoundStack_101 (by decide) (q := 102) rfl ?_
        exact pm_retI hret dH_isSoundStack_102 (by first | (simp_all [fss]; done) | (rw [fss, if_neg (fun z => Int32.not_lt.mpr z.1 h86)]))
      · refine pm_iload_n dH_isSoundStack_93 rfl (q := 94) rfl ?_
        refine pm_if_ne (tgt := 101) dH_isSoundStack_94 rfl (q := 97) rfl (fun h94 => ?_) (fun h94 => ?_)
        · refine pm_iconst (x := 0) dH_isSoundStack_101 (by decide) (q := 102) rfl ?_
          exact pm_retI hret dH_isSoundStack_102 (by first | (simp_all [fss]; done) | (rw [fss, if_neg (fun z => Int32.not_lt.mpr z.1 h86)]))
        · refine pm_iconst (x := 1) dH_isSoundStack_97 (by decide) (q := 98) rfl ?_
          refine pm_goto (tgt := 102) dH_isSoundStack_98 rfl ?_
          exact pm_retI hret dH_isSoundStack_102 (by first | (simp_all [fss]; done) | (rw [fss, if_neg (fun z => Int32.not_lt.mpr z.1 h86)]))
  have hB : ∀ o o2, pm_Go mH_isSoundStack K G 26 [some (.ref t), some (.int (nI s)), o, o2] [.int (if fhl si f g (sa 4) (nI s) 1 ≠ 0 ∧ sa 0 s = 0 then (1 : Int32) else 0)] h 0 0 := by
    intro o o2
    refine pm_istore_n dH_isSoundStack_26 (by decide) (q := 27) rfl ?_
    refine pm_aload_n dH_isSoundStack_27 rfl (q := 28) rfl ?_
    refine pm_iload_n dH_isSoundStack_28 rfl (q := 29) rfl ?_
    refine pm_iconst (x := 2) dH_isSoundStack_29 (by decide) (q := 30) rfl ?_
    refine pm_cV2i hK (kH_holds hl 0 HA HO _ _) mo_H_holds im_H_holds se_H_holds lk_H_118 dH_isSoundStack_30 (by omega) (Nat.le_of_ble_eq_true rfl) (Nat.zero_le _) (Nat.zero_le _) hT rfl rfl (q := 33) rfl ?_
    refine pm_if_eq (tgt := 71) dH_isSoundStack_33 rfl (q := 36) rfl (fun h33 => ?_) (fun h33 => ?_)
    · refine pm_iconst (x := 0) dH_isSoundStack_71 (by decide) (q := 72) rfl ?_
      refine pm_topL (y := (if fhl si f g (sa 4) (nI s) 2 ≠ 0 ∧ (fhl si f g (sa 4) (nI s - 1) 3 ≠ 0 ∨ fhl si f g (sa 4) (nI s) 3 ≠ 0 ∨ fhl si f g (sa 4) (nI s + 1) 3 ≠ 0) then (1 : Int32) else 0)) (by simp_all) ?_
      exact hC _
    · refine pm_aload_n dH_isSoundStack_36 rfl (q := 37) rfl ?_
      refine pm_iload_n dH_isSoundStack_37 rfl (q := 38) rfl ?_
      refine pm_iconst (x := 1) dH_isSoundStack_38 (by decide) (q := 39) rfl ?_
      refine pm_isub dH_isSoundStack_39 (q := 40) rfl ?_
      refine pm_iconst (x := 3) dH_isSoundStack_40 (by decide) (q := 41) rfl ?_
      refine pm_cV2i hK (kH_holds hl 0 HA HO _ _) mo_H_holds im_H_holds se_H_holds lk_H_118 dH_isSoundStack_41 (by omega) (Nat.le_of_ble_eq_true rfl) (Nat.zero_le _) (Nat.zero_le _) hT rfl rfl (q := 44) rfl ?_
      refine pm_if_ne (tgt := 67) dH_isSoundStack_44 rfl (q := 47) rfl (fun h44 => ?_) (fun h44 => ?_)
      · refine pm_iconst (x := 1) dH_isSoundStack_67 (by decide) (q := 68) rfl ?_
        refine pm_goto (tgt := 72) dH_isSoundStack_68 rfl ?_
        refine pm_topL (y := (if fhl si f g (sa 4) (nI s) 2 ≠ 0 ∧ (fhl si f g (sa 4) (nI s - 1) 3 ≠ 0 ∨ fhl si f g (sa 4) (nI s) 3 ≠ 0 ∨ fhl si f g (sa 4) (nI s + 1) 3 ≠ 0) then (1 : Int32) else 0)) (by simp_all) ?_
        exact hC _
      · refine pm_aload_n dH_isSoundStack_47 rfl (q := 48) rfl ?_
        refine pm_iload_n dH_isSoundStack_48 rfl (q := 49) rfl ?_
        refine pm_iconst (x := 3) dH_isSoundStack_49 (by decide) (q := 50) rfl ?_
        refine pm_cV2i hK (kH_holds hl 0 HA HO _ _) mo_H_holds im_H_holds se_H_holds lk_H_118 dH_isSoundStack_50 (by omega) (Nat.le_of_ble_eq_true rfl) (Nat.zero_le _) (Nat.zero_le _) hT rfl rfl (q := 53) rfl ?_
        refine pm_if_ne (tgt := 67) dH_isSoundStack_53 rfl (q := 56) rfl (fun h53 => ?_) (fun h53 => ?_)
        · refine pm_iconst (x := 1) dH_isSoundStack_67 (by decide) (q := 68) rfl ?_
          refine pm_goto (tgt := 72) dH_isSoundStack_68 rfl ?_
          refine pm_topL (y := (if fhl si f g (sa 4) (nI s) 2 ≠ 0 ∧ (fhl si f g (sa 4) (nI s - 1) 3 ≠ 0 ∨ fhl si f g (sa 4) (nI s) 3 ≠ 0 ∨ fhl si f g (sa 4) (nI s + 1) 3 ≠ 0) then (1 : Int32) else 0)) (by simp_all) ?_
          exact hC _
        · refine pm_aload_n dH_isSoundStack_56 rfl (q := 57) rfl ?_
          refine pm_iload_n dH_isSoundStack_57 rfl (q := 58) rfl ?_
          refine pm_iconst (x := 1) dH_isSoundStack_58 (by decide) (q := 59) rfl ?_
          refine pm_iadd dH_isSoundStack_59 (q := 60) rfl ?_
          refine pm_iconst (x := 3) dH_isSoundStack_60 (by decide) (q := 61) rfl ?_
          refine pm_cV2i hK (kH_holds hl 0 HA HO _ _) mo_H_holds im_H_holds se_H_holds lk_H_118 dH_isSoundStack_61 (by omega) (Nat.le_of_ble_eq_true rfl) (Nat.zero_le _) (Nat.zero_le _) hT rfl rfl (q := 64) rfl ?_
          refine pm_if_eq (tgt := 71) dH_isSoundStack_64 rfl (q := 67) rfl (fun h64 => ?_) (fun h64 => ?_)
          · refine pm_iconst (x := 0) dH_isSoundStack_71 (by decide) (q := 72) rfl ?_
            refine pm_topL (y := (if fhl si f g (sa 4) (nI s) 2 ≠ 0 ∧ (fhl si f g (sa 4) (nI s - 1) 3 ≠ 0 ∨ fhl si f g (sa 4) (nI s) 3 ≠ 0 ∨ fhl si f g (sa 4) (nI s + 1) 3 ≠ 0) then (1 : Int32) else 0)) (by simp_all) ?_
            exact hC _
          · refine pm_iconst (x := 1) dH_isSoundStack_67 (by decide) (q := 68) rfl ?_
            refine pm_goto (tgt := 72) dH_isSoundStack_68 rfl ?_
            refine pm_topL (y := (if fhl si f g (sa 4) (nI s) 2 ≠ 0 ∧ (fhl si f g (sa 4) (nI s - 1) 3 ≠ 0 ∨ fhl si f g (sa 4) (nI s) 3 ≠ 0 ∨ fhl si f g (sa 4) (nI s + 1) 3 ≠ 0) then (1 : Int32) else 0)) (by simp_all) ?_
            exact hC _
  refine pm_aload_n dH_isSoundStack_0 rfl (q := 1) rfl ?_
  refine pm_iload_n dH_isSoundStack_1 rfl (q := 2) rfl ?_
  refine pm_iconst (x := 1) dH_isSoundStack_2 (by decide) (q := 3) rfl ?_
  refine pm_cV2i hK (kH_holds hl 0 HA HO _ _) mo_H_holds im_H_holds se_H_holds lk_H_118 dH_isSoundStack_3 (by omega) (Nat.le_of_ble_eq_true rfl) (Nat.zero_le _) (Nat.zero_le _) hT rfl rfl (q := 6) rfl ?_
  refine pm_if_eq (tgt := 25) dH_isSoundStack_6 rfl (q := 9) rfl (fun h6 => ?_) (fun h6 => ?_)
  · refine pm_iconst (x := 0) dH_isSoundStack_25 (by decide) (q := 26) rfl ?_
    refine pm_topL (y := (if fhl si f g (sa 4) (nI s) 1 ≠ 0 ∧ sa 0 s = 0 then (1 : Int32) else 0)) (by simp_all) ?_
    exact hB _ _
  · refine pm_aload_n dH_isSoundStack_9 rfl (q := 10) rfl ?_
    refine pm_get fl_H_21 dH_isSoundStack_10 hT rfl (q := 13) rfl ?_
    refine pm_get fl_H_121 dH_isSoundStack_13 hS rfl (q := 16) rfl ?_
    refine pm_iload_n dH_isSoundStack_16 rfl (q := 17) rfl ?_
    refine pm_zaldN dH_isSoundStack_17 hPl (hs) (Nat.le_of_ble_eq_true rfl) (q := 18) rfl ?_
    refine pm_if_ne (tgt := 25) dH_isSoundStack_18 rfl (q := 21) rfl (fun h18 => ?_) (fun h18 => ?_)
    · refine pm_iconst (x := 0) dH_isSoundStack_25 (by decide) (q := 26) rfl ?_
      refine pm_topL (y := (if fhl si f g (sa 4) (nI s) 1 ≠ 0 ∧ sa 0 s = 0 then (1 : Int32) else 0)) (by simp_all) ?_
      exact hB _ _
    · refine pm_iconst (x := 1) dH_isSoundStack_21 (by decide) (q := 22) rfl ?_
      refine pm_goto (tgt := 26) dH_isSoundStack_22 rfl ?_
      refine pm_topL (y := (if fhl si f g (sa 4) (nI s) 1 ≠ 0 ∧ sa 0 s = 0 then (1 : Int32) else 0)) (by simp_all) ?_
      exact hB _ _
section Math
variable {M : pm_M} {K : pm_X → Prop} {G : pm_X → State → Prop} {pc : Nat} {ls : List (Option Value)} {st : List Value} {h : pm_H} {k n : Nat} {l : Launch} {d mc ms idx : Nat}
theorem pm_abs {x : Int32} (hK : ∀ X, K X → pm_Kd l d mc ms X) (hd1 : 1 ≤ d) (hlk : Cond.methodLink M.1.cls idx yZ_abs ∈ pm_ws) (hd : decode M.2.1 pc = .ok (.invokestatic idx, 3)) (hrest : (st.map fun v => v.category).sum ≤ 8) (hk1 : k ≤ mc) (hk2 : n ≤ ms) {q : Nat} (hq : pc + 3 = q) (kk : pm_Go M K G q ls (.int (if 0 ≤ x then x else 0 - x) :: st) h k n) : pm_Go M K G pc ls (.int x :: st) h k n := by
  subst hq
  rintro ⟨p, l1, e, R, s, m, args, below, meth, c, A, D, κ, α⟩ hKX hO H locs rs hs
  obtain ⟨hx, hb, hr, hml, hown, hts, hKn, hA, hlk9, hN, hnm, hstt, htab⟩ := id hO
  obtain ⟨hl1, hf1, hf2, hf3, hf4⟩ := hK _ hKX
  dsimp only at hl1 hf1 hf2 hf3 hf4
  have hc0 := pm_cats α st
  exact va_mabs hx hb (by rw [hml]; exact hs.2.2.2.1.symm) hown (hts _ hlk) (hts _ st_Z_abs) (hts _ (pm_in1 (j := 13) rfl rfl)) (hts _ (pm_in2 (j := 15) rfl rfl)) (by omega) (by rw [hc0]; omega) (by omega) (by omega) hd (kk _ hKX hO H locs rs hs)
theorem pm_max {x y : Int32} (hK : ∀ X, K X → pm_Kd l d mc ms X) (hd1 : 1 ≤ d) (hlk : Cond.methodLink M.1.cls idx yZ_max ∈ pm_ws) (hd : decode M.2.1 pc = .ok (.invokestatic idx, 3)) (hrest : (st.map fun v => v.category).sum ≤ 8) (hk1 : k ≤ mc) (hk2 : n ≤ ms) {q : Nat} (hq : pc + 3 = q) (kk : pm_Go M K G q ls (.int (if x < y then y else x) :: st) h k n) : pm_Go M K G pc ls (.int y :: .int x :: st) h k n := by
  subst hq
  rintro ⟨p, l1, e, R, s, m, args, below, meth, c, A, D, κ, α⟩ hKX hO H locs rs hs
  obtain ⟨hx, hb, hr, hml, hown, hts, hKn, hA, hlk9, hN, hnm, hstt, htab⟩ := id hO
  obtain ⟨hl1, hf1, hf2, hf3, hf4⟩ := hK _ hKX
  dsimp only at hl1 hf1 hf2 hf3 hf4
  have hc0 := pm_cats α st
  exact va_mmax hx hb (by rw [hml]; exact hs.2.2.2.1.symm) hown (hts _ hlk) (hts _ st_Z_max) (hts _ (pm_in1 (j := 13) rfl rfl)) (hts _ (pm_in3 (j := 103) rfl rfl)) (by omega) (by rw [hc0]; omega) (by omega) (by omega) hd (kk _ hKX hO H locs rs hs)
end Math
def fab32 (x : Int32) : Int32 := if 0 ≤ x then x else 0 - x
def fall (si f g u : Nat → Int32) (sa : Nat → Nat → Int32) : Nat → Nat → Int32
  | 0, _ => 1
  | m + 1, j => if fss si f g u sa j = 0 then 0 else fall si f g u sa m (j + 1)
theorem fall_b (si f g u : Nat → Int32) (sa : Nat → Nat → Int32) : ∀ m j, narrow .boolean (.int (fall si f g u sa m j)) = .int (fall si f g u sa m j) := by
  intro m
  induction m with
  | zero => intro j; rw [fall]; rfl
  | succ m ih =>
    intro j
    unfold fall
    split
    · rfl
    · exact ih _
def fsound (si f g u : Nat → Int32) (sa : Nat → Nat → Int32) (v : Int32) (S : Nat) : Int32 := if si 4 < v then 0 else if fab32 (fsl si u S) ≤ si 5 then fall si f g u sa S 0 else 0
theorem fsound_b (si f g u : Nat → Int32) (sa : Nat → Nat → Int32) (v : Int32) (S : Nat) : narrow .boolean (.int (fsound si f g u sa v S)) = .int (fsound si f g u sa v S) := by
  unfold fsound; split
  · rfl
  · split
    · exact fall_b _ _ _ _ _ _ _
    · rfl
set_option maxHeartbeats 8000000 in
theorem kH_isSound {l : Launch} (hl : l.stackTraces = false) (d : Nat) (hd : 2 ≤ d) {h : pm_H} {t : Nat} {si : Nat → Int32} {sa : Nat → Nat → Int32} {v : Int32} {f g u : Nat → Int32} (HA : HoldAt h t si sa v f g u) {S : Nat} (HO : HoldOk si f g S) : pm_Sem l d mH_isSound [.ref t] h (some (.int (fsound si f g u sa v S))) h := by
  refine pm_sem hl mo_H_isSound ⟨_, rfl, fsound_b _ _ _ _ _ _ _⟩ rfl rfl (Nat.le_of_ble_eq_true rfl) (fun K G hK hret => ?_)
  obtain ⟨hT, hF, hG, hU, hS, hPl, hFr, hTo, hWt, hKd, hRo⟩ := id HA
  obtain ⟨ho1, ho2, ho3⟩ := id HO
  have hL : ∀ (m j : Nat), m + j = S → fall si f g u sa m j = fsound si f g u sa v S → pm_Go mH_isSound K G 35 [some (.ref t), some (.int (nI j))] [] h 0 0 := by
    intro m
    induction m with
    | zero =>
      intro j hj hr
      have hj : j = S := by omega
      subst hj
      refine pm_iload_n dH_isSound_35 rfl (q := 36) rfl ?_
      refine pm_aload_n dH_isSound_36 rfl (q := 37) rfl ?_
      refine pm_get fl_H_21 dH_isSound_37 hT rfl (q := 40) rfl ?_
      refine pm_get fl_H_92 dH_isSound_40 hS rfl (q := 43) rfl ?_
      refine pm_icmp_ge (tgt := 62) dH_isSound_43 rfl (q := 46) rfl (fun _ => ?_) (fun z => absurd (by rw [ho1]; exact nI_le (Nat.le_refl _) (by omega)) z)
      refine pm_iconst (x := 1) dH_isSound_62 (by decide) (q := 63) rfl ?_
      exact pm_retI hret dH_isSound_63 hr
    | succ m ih =>
      intro j hj hr
      have hjS : j < S := by omega
      rw [fall] at hr
      refine pm_iload_n dH_isSound_35 rfl (q := 36) rfl ?_
      refine pm_aload_n dH_isSound_36 rfl (q := 37) rfl ?_
      refine pm_get fl_H_21 dH_isSound_37 hT rfl (q := 40) rfl ?_
      refine pm_get fl_H_92 dH_isSound_40 hS rfl (q := 43) rfl ?_
      refine pm_icmp_ge (tgt := 62) dH_isSound_43 rfl (q := 46) rfl (fun z => absurd z (by rw [ho1]; exact nI_ge hjS (by omega))) (fun _ => ?_)
      refine pm_aload_n dH_isSound_46 rfl (q := 47) rfl ?_
      refine pm_iload_n dH_isSound_47 rfl (q := 48) rfl ?_
      refine pm_cV1i hK (kH_isSoundStack hl 1 (Nat.le_refl _) HA HO j (by omega)) mo_H_isSoundStack im_H_isSoundStack se_H_isSoundStack lk_H_115 dH_isSound_48 (by omega) (Nat.le_of_ble_eq_true rfl) (Nat.zero_le _) (Nat.zero_le _) hT rfl rfl (q := 51) rfl ?_
      refine pm_if_ne (tgt := 56) dH_isSound_51 rfl (q := 54) rfl (fun h51 => ?_) (fun h51 => ?_)
      · refine pm_iincL dH_isSound_56 rfl (by decide) (y := nI (j + 1)) (by rw [nI_succ]; rfl) (q := 59) rfl ?_
        refine pm_goto (tgt := 35) dH_isSound_59 rfl ?_
        exact ih (j + 1) (by omega) (by rw [← hr, if_neg h51])
      · refine pm_iconst (x := 0) dH_isSound_54 (by decide) (q := 55) rfl ?_
        exact pm_retI hret dH_isSound_55 (by rw [← hr, if_pos h51])
  refine pm_aload_n dH_isSound_0 rfl (q := 1) rfl ?_
  refine pm_get fl_H_31 dH_isSound_1 hT rfl (q := 4) rfl ?_
  refine pm_aload_n dH_isSound_4 rfl (q := 5) rfl ?_
  refine pm_get fl_H_21 dH_isSound_5 hT rfl (q := 8) rfl ?_
  refine pm_get fl_H_103 dH_isSound_8 hS rfl (q := 11) rfl ?_
  refine pm_icmp_gt (tgt := 31) dH_isSound_11 rfl (q := 14) rfl (fun h11 => ?_) (fun h11 => ?_)
  · refine pm_iconst (x := 0) dH_isSound_31 (by decide) (q := 32) rfl ?_
    exact pm_retI hret dH_isSound_32 (by first | (rw [fsound, if_pos h11]; done) | (rw [fsound, if_neg h11, if_neg (show ¬ fab32 (fsl si u S) ≤ si 5 from h28)]; done))
  · refine pm_aload_n dH_isSound_14 rfl (q := 15) rfl ?_
    refine pm_cV0i hK (kH_signedList hl 0 HA ho1 ho2) mo_H_signedList im_H_signedList se_H_signedList lk_H_104 dH_isSound_15 (by omega) (Nat.le_of_ble_eq_true rfl) (Nat.zero_le _) (Nat.zero_le _) hT rfl rfl (q := 18) rfl ?_
    refine pm_abs hK (by omega) (pm_in2 (j := 13) rfl rfl) dH_isSound_18 (Nat.le_of_ble_eq_true rfl) (Nat.zero_le _) (Nat.zero_le _) (q := 21) rfl ?_
    refine pm_aload_n dH_isSound_21 rfl (q := 22) rfl ?_
    refine pm_get fl_H_21 dH_isSound_22 hT rfl (q := 25) rfl ?_
    refine pm_get fl_H_112 dH_isSound_25 hS rfl (q := 28) rfl ?_
    refine pm_icmp_le (tgt := 33) dH_isSound_28 rfl (q := 31) rfl (fun h28 => ?_) (fun h28 => ?_)
    · refine pm_iconst (x := 0) dH_isSound_33 (by decide) (q := 34) rfl ?_
      refine pm_istore_n dH_isSound_34 (by decide) (q := 35) rfl ?_
      exact hL S 0 (by omega) (by rw [fsound, if_neg h11, if_pos (show fab32 (fsl si u S) ≤ si 5 from h28)])
    · refine pm_iconst (x := 0) dH_isSound_31 (by decide) (q := 32) rfl ?_
      exact pm_retI hret dH_isSound_32 (by first | (rw [fsound, if_pos h11]; done) | (rw [fsound, if_neg h11, if_neg (show ¬ fab32 (fsl si u S) ≤ si 5 from h28)]; done))
