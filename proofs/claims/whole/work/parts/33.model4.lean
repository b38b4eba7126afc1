/-! the model: its constructor; kinds, soundness, height, stays, has, shifts, packed, hasAll -/
abbrev dc5 : pm_C := pm_o 5 [.int 0, .int 0, .int 0, .int 0, .int 0, .int 0, .int 0, .null, .int 0, .null, .null, .null, .null, .null, .null, .null, .null, .null, .int 0, .int 0, .null, .null, .null, .null, .null, .null]
def mi0 : Nat → Int32 := fun j => if j = 1 then 2 else if j = 2 then 2 else if j = 3 then 3 else if j = 4 then 100 else if j = 5 then 1000 else if j = 6 then 1000 else 0
def ma0 : Nat → Nat → Int32 := fun j => if j = 14 then (fun _ => -1) else fun _ => 0
set_option maxRecDepth 4000 in
set_option maxHeartbeats 8000000 in
theorem kM_init {l : Launch} (hl : l.stackTraces = false) (d : Nat) (hd : 1 ≤ d) : pm_SemN l d 16 15898 mM_init [.ref 31] (hpB ++ [dc5]) (hpB ++ mH mi0 ma0 []) := by
  refine pm_semN hl mo_M_init rfl rfl rfl (Nat.le_of_ble_eq_true rfl) (fun K G hK hSt hret => ?_)
  refine pm_aload_n dM_init_0 rfl (q := 1) rfl ?_
  refine pm_obj hK (by omega) oj_M oj_i oj_c dM_init_1 (Nat.le_of_ble_eq_true rfl) (q := 4) rfl ?_
  refine pm_aload_n dM_init_4 rfl (q := 5) rfl ?_
  refine pm_iconst (x := 2) dM_init_5 (by decide) (q := 6) rfl ?_
  refine pm_put fp_M_7 dM_init_6 rfl (Nat.le_of_ble_eq_true rfl) (fun _ => rfl) (fun _ => rfl) (q := 9) rfl ?_
  refine pm_aload_n dM_init_9 rfl (q := 10) rfl ?_
  refine pm_iconst (x := 2) dM_init_10 (by decide) (q := 11) rfl ?_
  refine pm_put fp_M_13 dM_init_11 rfl (Nat.le_of_ble_eq_true rfl) (fun _ => rfl) (fun _ => rfl) (q := 14) rfl ?_
  refine pm_aload_n dM_init_14 rfl (q := 15) rfl ?_
  refine pm_iconst (x := 3) dM_init_15 (by decide) (q := 16) rfl ?_
  refine pm_put fp_M_16 dM_init_16 rfl (Nat.le_of_ble_eq_true rfl) (fun _ => rfl) (fun _ => rfl) (q := 19) rfl ?_
  refine pm_aload_n dM_init_19 rfl (q := 20) rfl ?_
  refine pm_bipush (x := 100) dM_init_20 (by decide) (q := 22) rfl ?_
  refine pm_put fp_M_19 dM_init_22 rfl (Nat.le_of_ble_eq_true rfl) (fun _ => rfl) (fun _ => rfl) (q := 25) rfl ?_
  refine pm_aload_n dM_init_25 rfl (q := 26) rfl ?_
  refine pm_sipush (x := 1000) dM_init_26 (by decide) (q := 29) rfl ?_
  refine pm_put fp_M_22 dM_init_29 rfl (Nat.le_of_ble_eq_true rfl) (fun _ => rfl) (fun _ => rfl) (q := 32) rfl ?_
  refine pm_aload_n dM_init_32 rfl (q := 33) rfl ?_
  refine pm_sipush (x := 1000) dM_init_33 (by decide) (q := 36) rfl ?_
  refine pm_put fp_M_25 dM_init_36 rfl (Nat.le_of_ble_eq_true rfl) (fun _ => rfl) (fun _ => rfl) (q := 39) rfl ?_
  refine pm_aload_n dM_init_39 rfl (q := 40) rfl ?_
  refine pm_iconst (x := 3) dM_init_40 (by decide) (q := 41) rfl ?_
  refine pm_newa hK (Or.inr ⟨rfl, rfl⟩) ac_Z dM_init_41 (by decide) rfl (by decide) hSt (Nat.le_of_ble_eq_true rfl) (Nat.le_of_ble_eq_true rfl) rfl rfl rfl (Nat.le_of_ble_eq_true rfl) (Nat.le_of_ble_eq_true rfl) (q := 43) rfl rfl ?_
  refine pm_putF fp_M_28 rfl dM_init_43 rfl (Nat.le_of_ble_eq_true rfl) (fun _ => rfl) (fun _ => rfl) (q := 46) rfl ?_
  refine pm_aload_n dM_init_46 rfl (q := 47) rfl ?_
  refine pm_iconst (x := 5) dM_init_47 (by decide) (q := 48) rfl ?_
  refine pm_newa hK (Or.inl ⟨rfl, rfl⟩) ac_I dM_init_48 (by decide) rfl (by decide) hSt (Nat.le_of_ble_eq_true rfl) (Nat.le_of_ble_eq_true rfl) rfl rfl rfl (Nat.le_of_ble_eq_true rfl) (Nat.le_of_ble_eq_true rfl) (q := 50) rfl rfl ?_
  refine pm_putF fp_M_32 rfl dM_init_50 rfl (Nat.le_of_ble_eq_true rfl) (fun _ => rfl) (fun _ => rfl) (q := 53) rfl ?_
  refine pm_aload_n dM_init_53 rfl (q := 54) rfl ?_
  refine pm_iconst (x := 5) dM_init_54 (by decide) (q := 55) rfl ?_
  refine pm_newa hK (Or.inl ⟨rfl, rfl⟩) ac_I dM_init_55 (by decide) rfl (by decide) hSt (Nat.le_of_ble_eq_true rfl) (Nat.le_of_ble_eq_true rfl) rfl rfl rfl (Nat.le_of_ble_eq_true rfl) (Nat.le_of_ble_eq_true rfl) (q := 57) rfl rfl ?_
  refine pm_putF fp_M_36 rfl dM_init_57 rfl (Nat.le_of_ble_eq_true rfl) (fun _ => rfl) (fun _ => rfl) (q := 60) rfl ?_
  refine pm_aload_n dM_init_60 rfl (q := 61) rfl ?_
  refine pm_iconst (x := 5) dM_init_61 (by decide) (q := 62) rfl ?_
  refine pm_newa hK (Or.inl ⟨rfl, rfl⟩) ac_I dM_init_62 (by decide) rfl (by decide) hSt (Nat.le_of_ble_eq_true rfl) (Nat.le_of_ble_eq_true rfl) rfl rfl rfl (Nat.le_of_ble_eq_true rfl) (Nat.le_of_ble_eq_true rfl) (q := 64) rfl rfl ?_
  refine pm_putF fp_M_39 rfl dM_init_64 rfl (Nat.le_of_ble_eq_true rfl) (fun _ => rfl) (fun _ => rfl) (q := 67) rfl ?_
  refine pm_aload_n dM_init_67 rfl (q := 68) rfl ?_
  refine pm_iconst (x := 5) dM_init_68 (by decide) (q := 69) rfl ?_
  refine pm_newa hK (Or.inl ⟨rfl, rfl⟩) ac_I dM_init_69 (by decide) rfl (by decide) hSt (Nat.le_of_ble_eq_true rfl) (Nat.le_of_ble_eq_true rfl) rfl rfl rfl (Nat.le_of_ble_eq_true rfl) (Nat.le_of_ble_eq_true rfl) (q := 71) rfl rfl ?_
  refine pm_putF fp_M_42 rfl dM_init_71 rfl (Nat.le_of_ble_eq_true rfl) (fun _ => rfl) (fun _ => rfl) (q := 74) rfl ?_
  refine pm_aload_n dM_init_74 rfl (q := 75) rfl ?_
  refine pm_iconst (x := 5) dM_init_75 (by decide) (q := 76) rfl ?_
  refine pm_newa hK (Or.inr ⟨rfl, rfl⟩) ac_Z dM_init_76 (by decide) rfl (by decide) hSt (Nat.le_of_ble_eq_true rfl) (Nat.le_of_ble_eq_true rfl) rfl rfl rfl (Nat.le_of_ble_eq_true rfl) (Nat.le_of_ble_eq_true rfl) (q := 78) rfl rfl ?_
  refine pm_putF fp_M_45 rfl dM_init_78 rfl (Nat.le_of_ble_eq_true rfl) (fun _ => rfl) (fun _ => rfl) (q := 81) rfl ?_
  refine pm_aload_n dM_init_81 rfl (q := 82) rfl ?_
  refine pm_sipush (x := 7800) dM_init_82 (by decide) (q := 85) rfl ?_
  refine pm_newa hK (Or.inl ⟨rfl, rfl⟩) ac_I dM_init_85 (by decide) rfl (by decide) hSt (Nat.le_of_ble_eq_true rfl) (Nat.le_of_ble_eq_true rfl) rfl rfl rfl (Nat.le_of_ble_eq_true rfl) (Nat.le_of_ble_eq_true rfl) (q := 87) rfl rfl ?_
  refine pm_putF fp_M_48 rfl dM_init_87 rfl (Nat.le_of_ble_eq_true rfl) (fun _ => rfl) (fun _ => rfl) (q := 90) rfl ?_
  refine pm_aload_n dM_init_90 rfl (q := 91) rfl ?_
  refine pm_sipush (x := 7800) dM_init_91 (by decide) (q := 94) rfl ?_
  refine pm_newa hK (Or.inl ⟨rfl, rfl⟩) ac_I dM_init_94 (by decide) rfl (by decide) hSt (Nat.le_of_ble_eq_true rfl) (Nat.le_of_ble_eq_true rfl) rfl rfl rfl (Nat.le_of_ble_eq_true rfl) (Nat.le_of_ble_eq_true rfl) (q := 96) rfl rfl ?_
  refine pm_putF fp_M_51 rfl dM_init_96 rfl (Nat.le_of_ble_eq_true rfl) (fun _ => rfl) (fun _ => rfl) (q := 99) rfl ?_
  refine pm_aload_n dM_init_99 rfl (q := 100) rfl ?_
  refine pm_iconst (x := 3) dM_init_100 (by decide) (q := 101) rfl ?_
  refine pm_newa hK (Or.inl ⟨rfl, rfl⟩) ac_I dM_init_101 (by decide) rfl (by decide) hSt (Nat.le_of_ble_eq_true rfl) (Nat.le_of_ble_eq_true rfl) rfl rfl rfl (Nat.le_of_ble_eq_true rfl) (Nat.le_of_ble_eq_true rfl) (q := 103) rfl rfl ?_
  refine pm_putF fp_M_54 rfl dM_init_103 rfl (Nat.le_of_ble_eq_true rfl) (fun _ => rfl) (fun _ => rfl) (q := 106) rfl ?_
  refine pm_aload_n dM_init_106 rfl (q := 107) rfl ?_
  refine pm_bipush (x := 9) dM_init_107 (by decide) (q := 109) rfl ?_
  refine pm_newa hK (Or.inl ⟨rfl, rfl⟩) ac_I dM_init_109 (by decide) rfl (by decide) hSt (Nat.le_of_ble_eq_true rfl) (Nat.le_of_ble_eq_true rfl) rfl rfl rfl (Nat.le_of_ble_eq_true rfl) (Nat.le_of_ble_eq_true rfl) (q := 111) rfl rfl ?_
  refine pm_putF fp_M_57 rfl dM_init_111 rfl (Nat.le_of_ble_eq_true rfl) (fun _ => rfl) (fun _ => rfl) (q := 114) rfl ?_
  refine pm_aload_n dM_init_114 rfl (q := 115) rfl ?_
  refine pm_bipush (x := 60) dM_init_115 (by decide) (q := 117) rfl ?_
  refine pm_newa hK (Or.inl ⟨rfl, rfl⟩) ac_I dM_init_117 (by decide) rfl (by decide) hSt (Nat.le_of_ble_eq_true rfl) (Nat.le_of_ble_eq_true rfl) rfl rfl rfl (Nat.le_of_ble_eq_true rfl) (Nat.le_of_ble_eq_true rfl) (q := 119) rfl rfl ?_
  refine pm_putF fp_M_60 rfl dM_init_119 rfl (Nat.le_of_ble_eq_true rfl) (fun _ => rfl) (fun _ => rfl) (q := 122) rfl ?_
  refine pm_aload_n dM_init_122 rfl (q := 123) rfl ?_
  refine pm_bipush (x := 60) dM_init_123 (by decide) (q := 125) rfl ?_
  refine pm_newa hK (Or.inl ⟨rfl, rfl⟩) ac_I dM_init_125 (by decide) rfl (by decide) hSt (Nat.le_of_ble_eq_true rfl) (Nat.le_of_ble_eq_true rfl) rfl rfl rfl (Nat.le_of_ble_eq_true rfl) (Nat.le_of_ble_eq_true rfl) (q := 127) rfl rfl ?_
  refine pm_putF fp_M_63 rfl dM_init_127 rfl (Nat.le_of_ble_eq_true rfl) (fun _ => rfl) (fun _ => rfl) (q := 130) rfl ?_
  refine pm_aload_n dM_init_130 rfl (q := 131) rfl ?_
  refine pm_bipush (x := 60) dM_init_131 (by decide) (q := 133) rfl ?_
  refine pm_newa hK (Or.inl ⟨rfl, rfl⟩) ac_I dM_init_133 (by decide) rfl (by decide) hSt (Nat.le_of_ble_eq_true rfl) (Nat.le_of_ble_eq_true rfl) rfl rfl rfl (Nat.le_of_ble_eq_true rfl) (Nat.le_of_ble_eq_true rfl) (q := 135) rfl rfl ?_
  refine pm_putF fp_M_66 rfl dM_init_135 rfl (Nat.le_of_ble_eq_true rfl) (fun _ => rfl) (fun _ => rfl) (q := 138) rfl ?_
  refine pm_aload_n dM_init_138 rfl (q := 139) rfl ?_
  refine pm_bipush (x := 60) dM_init_139 (by decide) (q := 141) rfl ?_
  refine pm_newa hK (Or.inl ⟨rfl, rfl⟩) ac_I dM_init_141 (by decide) rfl (by decide) hSt (Nat.le_of_ble_eq_true rfl) (Nat.le_of_ble_eq_true rfl) rfl rfl rfl (Nat.le_of_ble_eq_true rfl) (Nat.le_of_ble_eq_true rfl) (q := 143) rfl rfl ?_
  refine pm_putF fp_M_69 rfl dM_init_143 rfl (Nat.le_of_ble_eq_true rfl) (fun _ => rfl) (fun _ => rfl) (q := 146) rfl ?_
  refine pm_aload_n dM_init_146 rfl (q := 147) rfl ?_
  refine pm_bipush (x := 9) dM_init_147 (by decide) (q := 149) rfl ?_
  refine pm_newa hK (Or.inl ⟨rfl, rfl⟩) ac_I dM_init_149 (by decide) rfl (by decide) hSt (Nat.le_of_ble_eq_true rfl) (Nat.le_of_ble_eq_true rfl) rfl rfl rfl (Nat.le_of_ble_eq_true rfl) (Nat.le_of_ble_eq_true rfl) (q := 151) rfl rfl ?_
  refine pm_putF fp_M_72 rfl dM_init_151 rfl (Nat.le_of_ble_eq_true rfl) (fun _ => rfl) (fun _ => rfl) (q := 154) rfl ?_
  refine pm_aload_n dM_init_154 rfl (q := 155) rfl ?_
  refine pm_bipush (x := 9) dM_init_155 (by decide) (q := 157) rfl ?_
  refine pm_newa hK (Or.inl ⟨rfl, rfl⟩) ac_I dM_init_157 (by decide) rfl (by decide) hSt (Nat.le_of_ble_eq_true rfl) (Nat.le_of_ble_eq_true rfl) rfl rfl rfl (Nat.le_of_ble_eq_true rfl) (Nat.le_of_ble_eq_true rfl) (q := 159) rfl rfl ?_
  refine pm_putF fp_M_75 rfl dM_init_159 rfl (Nat.le_of_ble_eq_true rfl) (fun _ => rfl) (fun _ => rfl) (q := 162) rfl ?_
  refine pm_aload_n dM_init_162 rfl (q := 163) rfl ?_
  refine pm_get fl_M_72 dM_init_163 rfl rfl (q := 166) rfl ?_
  refine pm_cS1v hK (kM_empty hl 0 rfl) mo_M_empty st_M_empty lk_M_78 dM_init_166 (by omega) (Nat.le_of_ble_eq_true rfl) (Nat.le_of_ble_eq_true rfl) (Nat.le_of_ble_eq_true rfl) (q := 169) rfl ?_
  exact hret _ _ dM_init_169
def fM_k (f ki : Nat → Int32) (s : Nat) (k : Int32) : Nat → Int32
  | 0 => 0
  | j + 1 => if ¬ fM_k f ki s k j = 0 ∨ (¬ f (3 * s + j) < 0 ∧ ki (f (3 * s + j)).toNatClampNeg = k) then 1 else 0
theorem fM_k_b (f ki : Nat → Int32) (s : Nat) (k : Int32) (n : Nat) : narrow .boolean (.int (fM_k f ki s k n)) = .int (fM_k f ki s k n) := by
  cases n with
  | zero => rw [fM_k]; rfl
  | succ n => unfold fM_k; split <;> rfl
set_option maxHeartbeats 4000000 in
theorem kM_hasKind {l : Launch} (hl : l.stackTraces = false) (d : Nat) (hd : 1 ≤ d) {h : pm_H} {mi : Nat → Int32} {ma : Nat → Nat → Int32} (HA : ModAt h mi ma) {t : Nat} {f : Nat → Int32} (hY : h[t]? = some (pm_i 9 f)) (hf : ∀ k, k < 9 → ¬ f k < 0 → vp_in (f k) 5) (s : Nat) (hs : s < 3) (k : Int32) : pm_Sem l d mM_hasKind [.ref 31, .ref t, .int (nI s), .int k] h (some (.int (fM_k f (ma 4) s k 3))) h := by
  refine pm_sem hl mo_M_hasKind ⟨_, rfl, fM_k_b _ _ _ _ _⟩ rfl rfl (Nat.le_of_ble_eq_true rfl) (fun K G hK hret => ?_)
  obtain ⟨hM, hPg, hFr, hTo, hWt, hKi, hGo, hFo, hLe, hMa, hSl, hBo, hPo, hFo2, hTo2, hCr, hTr⟩ := id HA
  have hin : ¬ fw (nI s) 0 2 = 0 := by
    rw [← fw_1 (x := nI s) (a := 0) (b := 2) (nI_pos (by omega)) (show ¬ nI 2 < nI s from nI_nlt (by omega) (by omega))]; decide
  have hL : ∀ (m j : Nat), m + j = 3 → pm_Go mM_hasKind K G 6 [some (.ref 31), some (.ref t), some (.int (nI s)), some (.int k), some (.int (fM_k f (ma 4) s k j)), some (.int (nI j))] [] h 0 0 := by
    intro m
    induction m with
    | zero =>
      intro j hj
      have hj : j = 3 := by omega
      subst hj
      refine pm_iload dM_hasKind_6 rfl (q := 8) rfl ?_
      refine pm_iconst (x := 3) dM_hasKind_8 (by decide) (q := 9) rfl ?_
      refine pm_icmp_ge (tgt := 67) dM_hasKind_9 rfl (q := 12) rfl (fun _ => ?_) (fun z => absurd (by decide) z)
      refine pm_iload dM_hasKind_67 rfl (q := 69) rfl ?_
      exact pm_retI hret dM_hasKind_69 rfl
    | succ m ih =>
      intro j hj
      have hj3 : j < 3 := by omega
      have hk9 : 3 * s + j < 9 := by omega
      refine pm_iload dM_hasKind_6 rfl (q := 8) rfl ?_
      refine pm_iconst (x := 3) dM_hasKind_8 (by decide) (q := 9) rfl ?_
      refine pm_icmp_ge (tgt := 67) dM_hasKind_9 rfl (q := 12) rfl (fun z => absurd z (show ¬ (3 : Int32) ≤ nI j from nI_ge (b := 3) hj3 (by decide))) (fun _ => ?_)
      refine pm_iload_n dM_hasKind_12 rfl (q := 13) rfl ?_
      refine pm_iconst (x := 0) dM_hasKind_13 (by decide) (q := 14) rfl ?_
      refine pm_iconst (x := 2) dM_hasKind_14 (by decide) (q := 15) rfl ?_
      refine pm_cS3i hK (kM_in hl 0 _ _ _ _) mo_M_in st_M_in lk_M_92 dM_hasKind_15 (by omega) (Nat.le_of_ble_eq_true rfl) (Nat.zero_le _) (Nat.zero_le _) (q := 18) rfl ?_
      refine pm_if_eq (tgt := 67) dM_hasKind_18 rfl (q := 21) rfl (fun z => absurd z hin) (fun _ => ?_)
      refine pm_iload dM_hasKind_21 rfl (q := 23) rfl ?_
      refine pm_if_ne (tgt := 54) dM_hasKind_23 rfl (q := 26) rfl (fun h23 => ?_) (fun h23 => ?_)
      · refine pm_iconst (x := 1) dM_hasKind_54 (by decide) (q := 55) rfl ?_
        refine pm_goto (tgt := 59) dM_hasKind_55 rfl ?_
        refine pm_istore dM_hasKind_59 (by decide) (q := 61) rfl ?_
        refine pm_iincL dM_hasKind_61 rfl (by decide) (y := nI (j + 1)) (by rw [nI_succ]; rfl) (q := 64) rfl ?_
        refine pm_goto (tgt := 6) dM_hasKind_64 rfl ?_
        refine pm_loc (ls' := [some (.ref 31), some (.ref t), some (.int (nI s)), some (.int k), some (.int (fM_k f (ma 4) s k (j + 1))), some (.int (nI (j + 1)))]) ?_ (ih (j + 1) (by omega))
        first
        | (have e9 : fM_k f (ma 4) s k (j + 1) = 1 := if_pos (Or.inl h23)
           rw [e9]
           rfl)
        | (have e9 : fM_k f (ma 4) s k (j + 1) = 0 := by simp [fM_k, h23, h34]
           rw [e9]
           rfl)
        | (have e9 : fM_k f (ma 4) s k (j + 1) = 1 := by simp [fM_k, h23, h34, h51]
           rw [e9]
           rfl)
        | (have e9 : fM_k f (ma 4) s k (j + 1) = 0 := by simp [fM_k, h23, h34, h51]
           rw [e9]
           rfl)
      · refine pm_aload_n dM_hasKind_26 rfl (q := 27) rfl ?_
        refine pm_iconst (x := 3) dM_hasKind_27 (by decide) (q := 28) rfl ?_
        refine pm_iload_n dM_hasKind_28 rfl (q := 29) rfl ?_
        refine pm_imul dM_hasKind_29 (q := 30) rfl ?_
        refine pm_iload dM_hasKind_30 rfl (q := 32) rfl ?_
        refine pm_iadd dM_hasKind_32 (q := 33) rfl ?_
        refine pm_topL (y := nI (3 * s + j)) (nI_ts s j) ?_
        refine pm_ialdN dM_hasKind_33 hY hk9 (Nat.le_of_ble_eq_true rfl) (q := 34) rfl ?_
        refine pm_if_lt (tgt := 58) dM_hasKind_34 rfl (q := 37) rfl (fun h34 => ?_) (fun h34 => ?_)
        · refine pm_iconst (x := 0) dM_hasKind_58 (by decide) (q := 59) rfl ?_
          refine pm_istore dM_hasKind_59 (by decide) (q := 61) rfl ?_
          refine pm_iincL dM_hasKind_61 rfl (by decide) (y := nI (j + 1)) (by rw [nI_succ]; rfl) (q := 64) rfl ?_
          refine pm_goto (tgt := 6) dM_hasKind_64 rfl ?_
          refine pm_loc (ls' := [some (.ref 31), some (.ref t), some (.int (nI s)), some (.int k), some (.int (fM_k f (ma 4) s k (j + 1))), some (.int (nI (j + 1)))]) ?_ (ih (j + 1) (by omega))
          first
          | (have e9 : fM_k f (ma 4) s k (j + 1) = 1 := if_pos (Or.inl h23)
             rw [e9]
             rfl)
          | (have e9 : fM_k f (ma 4) s k (j + 1) = 0 := by simp [fM_k, h23, h34]
             rw [e9]
             rfl)
          | (have e9 : fM_k f (ma 4) s k (j + 1) = 1 := by simp [fM_k, h23, h34, h51]
             rw [e9]
             rfl)
          | (have e9 : fM_k f (ma 4) s k (j + 1) = 0 := by simp [fM_k, h23, h34, h51]
             rw [e9]
             rfl)
        · refine pm_aload_n dM_hasKind_37 rfl (q := 38) rfl ?_
          refine pm_get fl_M_42 dM_hasKind_38 hM rfl (q := 41) rfl ?_
          refine pm_aload_n dM_hasKind_41 rfl (q := 42) rfl ?_
          refine pm_iconst (x := 3) dM_hasKind_42 (by decide) (q := 43) rfl ?_
          refine pm_iload_n dM_hasKind_43 rfl (q := 44) rfl ?_
          refine pm_imul dM_hasKind_44 (q := 45) rfl ?_
          refine pm_iload dM_hasKind_45 rfl (q := 47) rfl ?_
          refine pm_iadd dM_hasKind_47 (q := 48) rfl ?_
          refine pm_topL (y := nI (3 * s + j)) (nI_ts s j) ?_
          refine pm_ialdN dM_hasKind_48 hY hk9 (Nat.le_of_ble_eq_true rfl) (q := 49) rfl ?_
          refine pm_iald dM_hasKind_49 hKi (hf _ hk9 h34) (q := 50) rfl ?_
          refine pm_iload_n dM_hasKind_50 rfl (q := 51) rfl ?_
          refine pm_icmp_ne (tgt := 58) dM_hasKind_51 rfl (q := 54) rfl (fun h51 => ?_) (fun h51 => ?_)
          · refine pm_iconst (x := 0) dM_hasKind_58 (by decide) (q := 59) rfl ?_
            refine pm_istore dM_hasKind_59 (by decide) (q := 61) rfl ?_
            refine pm_iincL dM_hasKind_61 rfl (by decide) (y := nI (j + 1)) (by rw [nI_succ]; rfl) (q := 64) rfl ?_
            refine pm_goto (tgt := 6) dM_hasKind_64 rfl ?_
            refine pm_loc (ls' := [some (.ref 31), some (.ref t), some (.int (nI s)), some (.int k), some (.int (fM_k f (ma 4) s k (j + 1))), some (.int (nI (j + 1)))]) ?_ (ih (j + 1) (by omega))
            first
            | (have e9 : fM_k f (ma 4) s k (j + 1) = 1 := if_pos (Or.inl h23)
               rw [e9]
               rfl)
            | (have e9 : fM_k f (ma 4) s k (j + 1) = 0 := by simp [fM_k, h23, h34]
               rw [e9]
               rfl)
            | (have e9 : fM_k f (ma 4) s k (j + 1) = 1 := by simp [fM_k, h23, h34, h51]
               rw [e9]
               rfl)
            | (have e9 : fM_k f (ma 4) s k (j + 1) = 0 := by simp [fM_k, h23, h34, h51]
               rw [e9]
               rfl)
          · refine pm_iconst (x := 1) dM_hasKind_54 (by decide) (q := 55) rfl ?_
            refine pm_goto (tgt := 59) dM_hasKind_55 rfl ?_
            refine pm_istore dM_hasKind_59 (by decide) (q := 61) rfl ?_
            refine pm_iincL dM_hasKind_61 rfl (by decide) (y := nI (j + 1)) (by rw [nI_succ]; rfl) (q := 64) rfl ?_
            refine pm_goto (tgt := 6) dM_hasKind_64 rfl ?_
            refine pm_loc (ls' := [some (.ref 31), some (.ref t), some (.int (nI s)), some (.int k), some (.int (fM_k f (ma 4) s k (j + 1))), some (.int (nI (j + 1)))]) ?_ (ih (j + 1) (by omega))
            first
            | (have e9 : fM_k f (ma 4) s k (j + 1) = 1 := if_pos (Or.inl h23)
               rw [e9]
               rfl)
            | (have e9 : fM_k f (ma 4) s k (j + 1) = 0 := by simp [fM_k, h23, h34]
               rw [e9]
               rfl)
            | (have e9 : fM_k f (ma 4) s k (j + 1) = 1 := by simp [fM_k, h23, h34, h51]
               rw [e9]
               rfl)
            | (have e9 : fM_k f (ma 4) s k (j + 1) = 0 := by simp [fM_k, h23, h34, h51]
               rw [e9]
               rfl)
  refine pm_iconst (x := 0) dM_hasKind_0 (by decide) (q := 1) rfl ?_
  refine pm_istore dM_hasKind_1 (by decide) (q := 3) rfl ?_
  refine pm_iconst (x := 0) dM_hasKind_3 (by decide) (q := 4) rfl ?_
  refine pm_istore dM_hasKind_4 (by decide) (q := 6) rfl ?_
  exact hL 3 0 (by omega)
set_option maxHeartbeats 4000000 in
theorem kM_hasKind_out {l : Launch} (hl : l.stackTraces = false) (d : Nat) (hd : 1 ≤ d) {h : pm_H} {mi : Nat → Int32} {ma : Nat → Nat → Int32} (HA : ModAt h mi ma) {t : Nat} {f : Nat → Int32} (hY : h[t]? = some (pm_i 9 f)) (s : Int32) (hs : fw s 0 2 = 0) (k : Int32) : pm_Sem l d mM_hasKind [.ref 31, .ref t, .int s, .int k] h (some (.int 0)) h := by
  refine pm_sem hl mo_M_hasKind ⟨_, rfl, rfl⟩ rfl rfl (Nat.le_of_ble_eq_true rfl) (fun K G hK hret => ?_)
  obtain ⟨hM, hPg, hFr, hTo, hWt, hKi, hGo, hFo, hLe, hMa, hSl, hBo, hPo, hFo2, hTo2, hCr, hTr⟩ := id HA
  refine pm_iconst (x := 0) dM_hasKind_0 (by decide) (q := 1) rfl ?_
  refine pm_istore dM_hasKind_1 (by decide) (q := 3) rfl ?_
  refine pm_iconst (x := 0) dM_hasKind_3 (by decide) (q := 4) rfl ?_
  refine pm_istore dM_hasKind_4 (by decide) (q := 6) rfl ?_
  refine pm_iload dM_hasKind_6 rfl (q := 8) rfl ?_
  refine pm_iconst (x := 3) dM_hasKind_8 (by decide) (q := 9) rfl ?_
  refine pm_icmp_ge (tgt := 67) dM_hasKind_9 rfl (q := 12) rfl (fun h => absurd h (by decide)) (fun _ => ?_)
  refine pm_iload_n dM_hasKind_12 rfl (q := 13) rfl ?_
  refine pm_iconst (x := 0) dM_hasKind_13 (by decide) (q := 14) rfl ?_
  refine pm_iconst (x := 2) dM_hasKind_14 (by decide) (q := 15) rfl ?_
  refine pm_cS3i hK (kM_in hl 0 _ _ _ _) mo_M_in st_M_in lk_M_92 dM_hasKind_15 (by omega) (Nat.le_of_ble_eq_true rfl) (Nat.zero_le _) (Nat.zero_le _) (q := 18) rfl ?_
  refine pm_if_eq (tgt := 67) dM_hasKind_18 rfl (q := 21) rfl (fun _ => ?_) (fun z => absurd hs z)
  refine pm_iload dM_hasKind_67 rfl (q := 69) rfl ?_
  exact pm_retI hret dM_hasKind_69 rfl
def fM_h (f : Nat → Int32) (s : Nat) : Nat → Nat → Int32
  | 0, j => nI j
  | m + 1, j => if f (3 * s + j) < 0 then nI j else fM_h f s m (j + 1)
set_option maxHeartbeats 4000000 in
theorem kM_height {l : Launch} (hl : l.stackTraces = false) (d : Nat) {h : pm_H} {t : Nat} {f : Nat → Int32} (hY : h[t]? = some (pm_i 9 f)) (s : Nat) (hs : s < 3) : pm_Sem l d mM_height [.ref 31, .ref t, .int (nI s)] h (some (.int (fM_h f s 3 0))) h := by
  refine pm_sem hl mo_M_height ⟨_, rfl, rfl⟩ rfl rfl (Nat.le_of_ble_eq_true rfl) (fun K G hK hret => ?_)
  have hL : ∀ (m j : Nat), m + j = 3 → fM_h f s m j = fM_h f s 3 0 → pm_Go mM_height K G 2 [some (.ref 31), some (.ref t), some (.int (nI s)), some (.int (nI j))] [] h 0 0 := by
    intro m
    induction m with
    | zero =>
      intro j hj hr
      have hj : j = 3 := by omega
      subst hj
      refine pm_iload_n dM_height_2 rfl (q := 3) rfl ?_
      refine pm_iconst (x := 3) dM_height_3 (by decide) (q := 4) rfl ?_
      refine pm_icmp_ge (tgt := 23) dM_height_4 rfl (q := 7) rfl (fun _ => ?_) (fun z => absurd (by decide) z)
      refine pm_iload_n dM_height_23 rfl (q := 24) rfl ?_
      exact pm_retI hret dM_height_24 hr
    | succ m ih =>
      intro j hj hr
      have hj3 : j < 3 := by omega
      have hk9 : 3 * s + j < 9 := by omega
      rw [fM_h] at hr
      refine pm_iload_n dM_height_2 rfl (q := 3) rfl ?_
      refine pm_iconst (x := 3) dM_height_3 (by decide) (q := 4) rfl ?_
      refine pm_icmp_ge (tgt := 23) dM_height_4 rfl (q := 7) rfl (fun z => absurd z (show ¬ (3 : Int32) ≤ nI j from nI_ge (b := 3) hj3 (by decide))) (fun _ => ?_)
      refine pm_aload_n dM_height_7 rfl (q := 8) rfl ?_
      refine pm_iconst (x := 3) dM_height_8 (by decide) (q := 9) rfl ?_
      refine pm_iload_n dM_height_9 rfl (q := 10) rfl ?_
      refine pm_imul dM_height_10 (q := 11) rfl ?_
      refine pm_iload_n dM_height_11 rfl (q := 12) rfl ?_
      refine pm_iadd dM_height_12 (q := 13) rfl ?_
      refine pm_topL (y := nI (3 * s + j)) (nI_ts s j) ?_
      refine pm_ialdN dM_height_13 hY hk9 (Nat.le_of_ble_eq_true rfl) (q := 14) rfl ?_
      refine pm_if_lt (tgt := 23) dM_height_14 rfl (q := 17) rfl (fun h14 => ?_) (fun h14 => ?_)
      · refine pm_iload_n dM_height_23 rfl (q := 24) rfl ?_
        exact pm_retI hret dM_height_24 (by rw [← hr, if_pos h14])
      · refine pm_iincL dM_height_17 rfl (by decide) (y := nI (j + 1)) (by rw [nI_succ]; rfl) (q := 20) rfl ?_
        refine pm_goto (tgt := 2) dM_height_20 rfl ?_
        exact ih (j + 1) (by omega) (by rw [← hr, if_neg h14])
  refine pm_iconst (x := 0) dM_height_0 (by decide) (q := 1) rfl ?_
  refine pm_istore_n dM_height_1 (by decide) (q := 2) rfl ?_
  exact hL 3 0 (by omega) rfl
def fM_p (f : Nat → Int32) : Nat → Int32
  | 0 => 0
  | j + 1 => fM_p f j ||| ((f j + 1) <<< ((3 * nI j) &&& 31))
set_option maxHeartbeats 4000000 in
theorem kM_packed {l : Launch} (hl : l.stackTraces = false) (d : Nat) {h : pm_H} {mi : Nat → Int32} {ma : Nat → Nat → Int32} (HA : ModAt h mi ma) : pm_Sem l d mM_packed [.ref 31] h (some (.int (fM_p (ma 9) 9))) h := by
  refine pm_sem hl mo_M_packed ⟨_, rfl, rfl⟩ rfl rfl (Nat.le_of_ble_eq_true rfl) (fun K G hK hret => ?_)
  obtain ⟨hM, hPg, hFr, hTo, hWt, hKi, hGo, hFo, hLe, hMa, hSl, hBo, hPo, hFo2, hTo2, hCr, hTr⟩ := id HA
  have hL : ∀ (m j : Nat), m + j = 9 → pm_Go mM_packed K G 4 [some (.ref 31), some (.int (fM_p (ma 9) j)), some (.int (nI j))] [] h 0 0 := by
    intro m
    induction m with
    | zero =>
      intro j hj
      have hj : j = 9 := by omega
      subst hj
      refine pm_iload_n dM_packed_4 rfl (q := 5) rfl ?_
      refine pm_bipush (x := 9) dM_packed_5 (by decide) (q := 7) rfl ?_
      refine pm_icmp_ge (tgt := 31) dM_packed_7 rfl (q := 10) rfl (fun _ => ?_) (fun z => absurd (by decide) z)
      refine pm_iload_n dM_packed_31 rfl (q := 32) rfl ?_
      exact pm_retI hret dM_packed_32 rfl
    | succ m ih =>
      intro j hj
      have hj9 : j < 9 := by omega
      refine pm_iload_n dM_packed_4 rfl (q := 5) rfl ?_
      refine pm_bipush (x := 9) dM_packed_5 (by decide) (q := 7) rfl ?_
      refine pm_icmp_ge (tgt := 31) dM_packed_7 rfl (q := 10) rfl (fun z => absurd z (show ¬ (9 : Int32) ≤ nI j from nI_ge (b := 9) hj9 (by decide))) (fun _ => ?_)
      refine pm_iload_n dM_packed_10 rfl (q := 11) rfl ?_
      refine pm_aload_n dM_packed_11 rfl (q := 12) rfl ?_
      refine pm_get fl_M_57 dM_packed_12 hM rfl (q := 15) rfl ?_
      refine pm_iload_n dM_packed_15 rfl (q := 16) rfl ?_
      refine pm_ialdN dM_packed_16 hSl (hj9) (Nat.le_of_ble_eq_true rfl) (q := 17) rfl ?_
      refine pm_iconst (x := 1) dM_packed_17 (by decide) (q := 18) rfl ?_
      refine pm_iadd dM_packed_18 (q := 19) rfl ?_
      refine pm_iconst (x := 3) dM_packed_19 (by decide) (q := 20) rfl ?_
      refine pm_iload_n dM_packed_20 rfl (q := 21) rfl ?_
      refine pm_imul dM_packed_21 (q := 22) rfl ?_
      refine pm_ishl dM_packed_22 (q := 23) rfl ?_
      refine pm_ior dM_packed_23 (q := 24) rfl ?_
      refine pm_istore_n dM_packed_24 (by decide) (q := 25) rfl ?_
      refine pm_iincL dM_packed_25 rfl (by decide) (y := nI (j + 1)) (by rw [nI_succ]; rfl) (q := 28) rfl ?_
      refine pm_goto (tgt := 4) dM_packed_28 rfl ?_
      exact ih (j + 1) (by omega)
  refine pm_iconst (x := 0) dM_packed_0 (by decide) (q := 1) rfl ?_
  refine pm_istore_n dM_packed_1 (by decide) (q := 2) rfl ?_
  refine pm_iconst (x := 0) dM_packed_2 (by decide) (q := 3) rfl ?_
  refine pm_istore_n dM_packed_3 (by decide) (q := 4) rfl ?_
  exact hL 9 0 (by omega)
def fM_all (mi f : Nat → Int32) (ma : Nat → Nat → Int32) (q : Int32) : Nat → Int32
  | 0 => 1
  | j + 1 => if ¬ fM_all mi f ma q j = 0 ∧ fM_ab mi ma j q = fM_in f (nI j) 9 then 1 else 0
theorem fM_all_b (mi f : Nat → Int32) (ma : Nat → Nat → Int32) (q : Int32) (n : Nat) : narrow .boolean (.int (fM_all mi f ma q n)) = .int (fM_all mi f ma q n) := by
  cases n with
  | zero => rw [fM_all]; rfl
  | succ n => unfold fM_all; split <;> rfl
set_option maxHeartbeats 4000000 in
theorem kM_hasAll {l : Launch} (hl : l.stackTraces = false) (d : Nat) (hd : 1 ≤ d) {h : pm_H} {mi : Nat → Int32} {ma : Nat → Nat → Int32} (HA : ModAt h mi ma) {t : Nat} {f : Nat → Int32} (hY : h[t]? = some (pm_i 9 f)) (q : Int32) : pm_Sem l d mM_hasAll [.ref 31, .ref t, .int q] h (some (.int (fM_all mi f ma q 5))) h := by
  refine pm_sem hl mo_M_hasAll ⟨_, rfl, fM_all_b _ _ _ _ _⟩ rfl rfl (Nat.le_of_ble_eq_true rfl) (fun K G hK hret => ?_)
  obtain ⟨hM, hPg, hFr, hTo, hWt, hKi, hGo, hFo, hLe, hMa, hSl, hBo, hPo, hFo2, hTo2, hCr, hTr⟩ := id HA
  have hL : ∀ (m j : Nat), m + j = 5 → pm_Go mM_hasAll K G 5 [some (.ref 31), some (.ref t), some (.int q), some (.int (fM_all mi f ma q j)), some (.int (nI j))] [] h 0 0 := by
    intro m
    induction m with
    | zero =>
      intro j hj
      have hj : j = 5 := by omega
      subst hj
      refine pm_iload dM_hasAll_5 rfl (q := 7) rfl ?_
      refine pm_iconst (x := 5) dM_hasAll_7 (by decide) (q := 8) rfl ?_
      refine pm_icmp_ge (tgt := 46) dM_hasAll_8 rfl (q := 11) rfl (fun _ => ?_) (fun z => absurd (by decide) z)
      refine pm_iload_n dM_hasAll_46 rfl (q := 47) rfl ?_
      exact pm_retI hret dM_hasAll_47 rfl
    | succ m ih =>
      intro j hj
      have hj5 : j < 5 := by omega
      refine pm_iload dM_hasAll_5 rfl (q := 7) rfl ?_
      refine pm_iconst (x := 5) dM_hasAll_7 (by decide) (q := 8) rfl ?_
      refine pm_icmp_ge (tgt := 46) dM_hasAll_8 rfl (q := 11) rfl (fun z => absurd z (show ¬ (5 : Int32) ≤ nI j from nI_ge (b := 5) hj5 (by decide))) (fun _ => ?_)
      refine pm_iload_n dM_hasAll_11 rfl (q := 12) rfl ?_
      refine pm_if_eq (tgt := 38) dM_hasAll_12 rfl (q := 15) rfl (fun h12 => ?_) (fun h12 => ?_)
      · refine pm_iconst (x := 0) dM_hasAll_38 (by decide) (q := 39) rfl ?_
        refine pm_istore_n dM_hasAll_39 (by decide) (q := 40) rfl ?_
        refine pm_iincL dM_hasAll_40 rfl (by decide) (y := nI (j + 1)) (by rw [nI_succ]; rfl) (q := 43) rfl ?_
        refine pm_goto (tgt := 5) dM_hasAll_43 rfl ?_
        refine pm_loc (ls' := [some (.ref 31), some (.ref t), some (.int q), some (.int (fM_all mi f ma q (j + 1))), some (.int (nI (j + 1)))]) ?_ (ih (j + 1) (by omega))
        first
        | (have e9 : fM_all mi f ma q (j + 1) = 0 := by simp [fM_all, h12]
           rw [e9]
           rfl)
        | (have e9 : fM_all mi f ma q (j + 1) = 0 := by simp [fM_all, h31]
           rw [e9]
           rfl)
        | (have e9 : fM_all mi f ma q (j + 1) = 1 := if_pos ⟨h12, h31⟩
           rw [e9]
           rfl)
      · refine pm_aload_n dM_hasAll_15 rfl (q := 16) rfl ?_
        refine pm_iload dM_hasAll_16 rfl (q := 18) rfl ?_
        refine pm_iload_n dM_hasAll_18 rfl (q := 19) rfl ?_
        refine pm_cV2i hK (kM_isAboard hl 0 HA j (by omega) _) mo_M_isAboard im_M_isAboard se_M_isAboard lk_M_125 dM_hasAll_19 (by omega) (Nat.le_of_ble_eq_true rfl) (Nat.zero_le _) (Nat.zero_le _) hM rfl rfl (q := 22) rfl ?_
        refine pm_aload_n dM_hasAll_22 rfl (q := 23) rfl ?_
        refine pm_aload_n dM_hasAll_23 rfl (q := 24) rfl ?_
        refine pm_iload dM_hasAll_24 rfl (q := 26) rfl ?_
        refine pm_bipush (x := nI 9) dM_hasAll_26 (by decide) (q := 28) rfl ?_
        refine pm_cV3i hK (kM_isIn hl 0 HA hY _ 9 (Nat.le_refl _)) mo_M_isIn im_M_isIn se_M_isIn lk_M_129 dM_hasAll_28 (by omega) (Nat.le_of_ble_eq_true rfl) (Nat.zero_le _) (Nat.zero_le _) hM rfl rfl (q := 31) rfl ?_
        refine pm_icmp_ne (tgt := 38) dM_hasAll_31 rfl (q := 34) rfl (fun h31 => ?_) (fun h31 => ?_)
        · refine pm_iconst (x := 0) dM_hasAll_38 (by decide) (q := 39) rfl ?_
          refine pm_istore_n dM_hasAll_39 (by decide) (q := 40) rfl ?_
          refine pm_iincL dM_hasAll_40 rfl (by decide) (y := nI (j + 1)) (by rw [nI_succ]; rfl) (q := 43) rfl ?_
          refine pm_goto (tgt := 5) dM_hasAll_43 rfl ?_
          refine pm_loc (ls' := [some (.ref 31), some (.ref t), some (.int q), some (.int (fM_all mi f ma q (j + 1))), some (.int (nI (j + 1)))]) ?_ (ih (j + 1) (by omega))
          first
          | (have e9 : fM_all mi f ma q (j + 1) = 0 := by simp [fM_all, h12]
             rw [e9]
             rfl)
          | (have e9 : fM_all mi f ma q (j + 1) = 0 := by simp [fM_all, h31]
             rw [e9]
             rfl)
          | (have e9 : fM_all mi f ma q (j + 1) = 1 := if_pos ⟨h12, h31⟩
             rw [e9]
             rfl)
        · refine pm_iconst (x := 1) dM_hasAll_34 (by decide) (q := 35) rfl ?_
          refine pm_goto (tgt := 39) dM_hasAll_35 rfl ?_
          refine pm_istore_n dM_hasAll_39 (by decide) (q := 40) rfl ?_
          refine pm_iincL dM_hasAll_40 rfl (by decide) (y := nI (j + 1)) (by rw [nI_succ]; rfl) (q := 43) rfl ?_
          refine pm_goto (tgt := 5) dM_hasAll_43 rfl ?_
          refine pm_loc (ls' := [some (.ref 31), some (.ref t), some (.int q), some (.int (fM_all mi f ma q (j + 1))), some (.int (nI (j + 1)))]) ?_ (ih (j + 1) (by omega))
          first
          | (have e9 : fM_all mi f ma q (j + 1) = 0 := by simp [fM_all, h12]
             rw [e9]
             rfl)
          | (have e9 : fM_all mi f ma q (j + 1) = 0 := by simp [fM_all, h31]
             rw [e9]
             rfl)
          | (have e9 : fM_all mi f ma q (j + 1) = 1 := if_pos ⟨h12, h31⟩
             rw [e9]
             rfl)
  refine pm_iconst (x := 1) dM_hasAll_0 (by decide) (q := 1) rfl ?_
  refine pm_istore_n dM_hasAll_1 (by decide) (q := 2) rfl ?_
  refine pm_iconst (x := 0) dM_hasAll_2 (by decide) (q := 3) rfl ?_
  refine pm_istore dM_hasAll_3 (by decide) (q := 5) rfl ?_
  exact hL 5 0 (by omega)
