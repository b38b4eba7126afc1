/-! the model: hasKind anywhere, isSound, moment -/
def fM_kx (f ki : Nat → Int32) (x k : Int32) : Int32 := if fw x 0 2 = 0 then 0 else fM_k f ki x.toNatClampNeg k 3
theorem fw_un {x a b : Int32} (h : ¬ fw x a b = 0) : a ≤ x ∧ x ≤ b := by
  by_cases h1 : a ≤ x ∧ x ≤ b
  · exact h1
  · exact absurd (if_neg h1) h
set_option maxHeartbeats 4000000 in
theorem kM_hasKind_x {l : Launch} (hl : l.stackTraces = false) (d : Nat) (hd : 1 ≤ d) {h : pm_H} {mi : Nat → Int32} {ma : Nat → Nat → Int32} (HA : ModAt h mi ma) {t : Nat} {f : Nat → Int32} (hY : h[t]? = some (pm_i 9 f)) (hf : ∀ k, k < 9 → ¬ f k < 0 → vp_in (f k) 5) (x k : Int32) : pm_Sem l d mM_hasKind [.ref 31, .ref t, .int x, .int k] h (some (.int (fM_kx f (ma 4) x k))) h := by
  by_cases hx : fw x 0 2 = 0
  · have e9 : fM_kx f (ma 4) x k = 0 := if_pos hx
    rw [e9]
    exact kM_hasKind_out hl d hd HA hY x hx k
  · obtain ⟨j, hj, rfl⟩ : ∃ j, j < 3 ∧ x = nI j := nI_lt_ex (S := 3) (Int32.not_lt.mpr (fw_un hx).1) (Int32.lt_of_le_of_lt (fw_un hx).2 (by decide)) (by decide)
    have e9 : fM_kx f (ma 4) (nI j) k = fM_k f (ma 4) j k 3 := by
      unfold fM_kx
      rw [if_neg hx, nI_clamp (by omega)]
    rw [e9]
    exact kM_hasKind hl d hd HA hY hf j hj k
theorem fM_n2 {a b c e : Prop} (h : ¬ b) : ¬ (a ∧ b ∧ c ∧ e) := fun z => h z.2.1
theorem fM_n3 {a b e p : Prop} {x : Int32} (h : p) (k : ¬ x = 0) : ¬ (a ∧ b ∧ (¬ p ∨ x = 0) ∧ e) := fun z => z.2.2.1.elim (fun y => y h) k
theorem fM_n4 {a b c : Prop} {x y : Int32} (h : ¬ x = 0) (k : ¬ y = 0) : ¬ (a ∧ b ∧ c ∧ (x = 0 ∨ y = 0)) := fun z => z.2.2.2.elim h k
theorem fM_y {a b c e : Prop} (h1 : a) (h2 : b) (h3 : c) (h4 : e) : a ∧ b ∧ c ∧ e := ⟨h1, h2, h3, h4⟩
theorem fM_m1 {a b c : Prop} (h : ¬ a) : ¬ (a ∧ b ∧ c) := fun z => h z.1
theorem fM_m2 {a b c : Prop} (h : ¬ b) : ¬ (a ∧ b ∧ c) := fun z => h z.2.1
theorem fM_m3 {a b c : Prop} (h : ¬ c) : ¬ (a ∧ b ∧ c) := fun z => h z.2.2
def fM_near (f ki : Nat → Int32) (x : Int32) : Int32 := if ¬ fM_kx f ki (x - 1) 3 = 0 ∨ ¬ fM_kx f ki x 3 = 0 ∨ ¬ fM_kx f ki (x + 1) 3 = 0 then 1 else 0
def fM_so (mi f : Nat → Int32) (ma : Nat → Nat → Int32) (S : Nat) : Nat → Int32
  | 0 => if fM_v f (ma 3) 9 ≤ mi 5 ∧ fM_l mi f (ma 3) S ≤ mi 6 ∧ -fM_l mi f (ma 3) S ≤ mi 6 then 1 else 0
  | s + 1 => if ¬ fM_so mi f ma S s = 0 ∧ fM_w f (ma 3) s 3 ≤ mi 4 ∧ (¬ ma 0 s = 0 ∨ fM_kx f (ma 4) (nI s) 1 = 0) ∧ (fM_near f (ma 4) (nI s) = 0 ∨ fM_kx f (ma 4) (nI s) 2 = 0) then 1 else 0
theorem fM_so_b (mi f : Nat → Int32) (ma : Nat → Nat → Int32) (S n : Nat) : narrow .boolean (.int (fM_so mi f ma S n)) = .int (fM_so mi f ma S n) := by
  cases n with
  | zero => rw [fM_so]; split <;> rfl
  | succ n => unfold fM_so; split <;> rfl
set_option maxHeartbeats 4000000 in
theorem kM_isSound {l : Launch} (hl : l.stackTraces = false) (d : Nat) (hd : 2 ≤ d) {h : pm_H} {mi : Nat → Int32} {ma : Nat → Nat → Int32} (HA : ModAt h mi ma) {t : Nat} {f : Nat → Int32} (hY : h[t]? = some (pm_i 9 f)) (hf : ∀ k, k < 9 → ¬ f k < 0 → vp_in (f k) 5) {S : Nat} (hS : mi 1 = nI S) (hS3 : S ≤ 3) : pm_Sem l d mM_isSound [.ref 31, .ref t] h (some (.int (fM_so mi f ma S S))) h := by
  refine pm_sem hl mo_M_isSound ⟨_, rfl, fM_so_b _ _ _ _ _⟩ rfl rfl (Nat.le_of_ble_eq_true rfl) (fun K G hK hret => ?_)
  obtain ⟨hM, hPg, hFr, hTo, hWt, hKi, hGo, hFo, hLe, hMa, hSl, hBo, hPo, hFo2, hTo2, hCr, hTr⟩ := id HA
  have hL : ∀ (m s : Nat) (o : Option Value), m + s = S → pm_Go mM_isSound K G 44 [some (.ref 31), some (.ref t), some (.int (fM_l mi f (ma 3) S)), some (.int (fM_so mi f ma S s)), some (.int (nI s)), o] [] h 0 0 := by
    intro m
    induction m with
    | zero =>
      intro s o hj
      have hj : s = S := by omega
      subst hj
      refine pm_iload dM_isSound_44 rfl (q := 46) rfl ?_
      refine pm_aload_n dM_isSound_46 rfl (q := 47) rfl ?_
      refine pm_get fl_M_7 dM_isSound_47 hM rfl (q := 50) rfl ?_
      refine pm_icmp_ge (tgt := 164) dM_isSound_50 rfl (q := 53) rfl (fun _ => ?_) (fun z => absurd (by rw [hS]; exact nI_le (Nat.le_refl _) (by omega)) z)
      refine pm_iload_n dM_isSound_164 rfl (q := 165) rfl ?_
      exact pm_retI hret dM_isSound_165 rfl
    | succ m ih =>
      intro s o hj
      have hsS : s < S := by omega
      have hs3 : s < 3 := by omega
      have hT : pm_Go mM_isSound K G 157 [some (.ref 31), some (.ref t), some (.int (fM_l mi f (ma 3) S)), some (.int (fM_so mi f ma S s)), some (.int (nI s)), some (.int (fM_near f (ma 4) (nI s)))] [.int (fM_so mi f ma S (s + 1))] h 0 0 := by
        refine pm_istore_n dM_isSound_157 (by decide) (q := 158) rfl ?_
        refine pm_iincL dM_isSound_158 rfl (by decide) (y := nI (s + 1)) (by rw [nI_succ]; rfl) (q := 161) rfl ?_
        refine pm_goto (tgt := 44) dM_isSound_161 rfl ?_
        exact ih (s + 1) _ (by omega)
      have hN : pm_Go mM_isSound K G 95 [some (.ref 31), some (.ref t), some (.int (fM_l mi f (ma 3) S)), some (.int (fM_so mi f ma S s)), some (.int (nI s)), o] [.int (fM_near f (ma 4) (nI s))] h 0 0 := by

        refine pm_istore dM_isSound_95 (by decide) (q := 97) rfl ?_
        refine pm_iload_n dM_isSound_97 rfl (q := 98) rfl ?_
        refine pm_if_eq (tgt := 156) dM_isSound_98 rfl (q := 101) rfl (fun h98 => ?_) (fun h98 => ?_)
        · refine pm_iconst (x := 0) dM_isSound_156 (by decide) (q := 157) rfl ?_
          refine pm_topL (y := fM_so mi f ma S (s + 1)) ?_ hT
          first
          | (have e9 : fM_so mi f ma S (s + 1) = 0 := by simp [fM_so, h98]
             exact e9.symm)
          | (have e9 : fM_so mi f ma S (s + 1) = 0 := if_neg (fM_n2 (Int32.not_le.mpr h112))
             exact e9.symm)
          | (have e9 : fM_so mi f ma S (s + 1) = 0 := if_neg (fM_n3 h122 h133)
             exact e9.symm)
          | (have e9 : fM_so mi f ma S (s + 1) = 0 := if_neg (fM_n4 h138 h149)
             exact e9.symm)
          | (have e9 : fM_so mi f ma S (s + 1) = 1 := if_pos (fM_y h98 (Int32.not_lt.mp h112) (Or.inl h122) (Or.inl h138))
             exact e9.symm)
          | (have e9 : fM_so mi f ma S (s + 1) = 1 := if_pos (fM_y h98 (Int32.not_lt.mp h112) (Or.inl h122) (Or.inr h149))
             exact e9.symm)
          | (have e9 : fM_so mi f ma S (s + 1) = 1 := if_pos (fM_y h98 (Int32.not_lt.mp h112) (Or.inr h133) (Or.inl h138))
             exact e9.symm)
          | (have e9 : fM_so mi f ma S (s + 1) = 1 := if_pos (fM_y h98 (Int32.not_lt.mp h112) (Or.inr h133) (Or.inr h149))
             exact e9.symm)
        · refine pm_aload_n dM_isSound_101 rfl (q := 102) rfl ?_
          refine pm_aload_n dM_isSound_102 rfl (q := 103) rfl ?_
          refine pm_iload dM_isSound_103 rfl (q := 105) rfl ?_
          refine pm_cV2i hK (kM_weightOf hl 0 HA hY hf s (by omega)) mo_M_weightOf im_M_weightOf se_M_weightOf lk_M_110 dM_isSound_105 (by omega) (Nat.le_of_ble_eq_true rfl) (Nat.zero_le _) (Nat.zero_le _) hM rfl rfl (q := 108) rfl ?_
          refine pm_aload_n dM_isSound_108 rfl (q := 109) rfl ?_
          refine pm_get fl_M_19 dM_isSound_109 hM rfl (q := 112) rfl ?_
          refine pm_icmp_gt (tgt := 156) dM_isSound_112 rfl (q := 115) rfl (fun h112 => ?_) (fun h112 => ?_)
          · refine pm_iconst (x := 0) dM_isSound_156 (by decide) (q := 157) rfl ?_
            refine pm_topL (y := fM_so mi f ma S (s + 1)) ?_ hT
            first
            | (have e9 : fM_so mi f ma S (s + 1) = 0 := by simp [fM_so, h98]
               exact e9.symm)
            | (have e9 : fM_so mi f ma S (s + 1) = 0 := if_neg (fM_n2 (Int32.not_le.mpr h112))
               exact e9.symm)
            | (have e9 : fM_so mi f ma S (s + 1) = 0 := if_neg (fM_n3 h122 h133)
               exact e9.symm)
            | (have e9 : fM_so mi f ma S (s + 1) = 0 := if_neg (fM_n4 h138 h149)
               exact e9.symm)
            | (have e9 : fM_so mi f ma S (s + 1) = 1 := if_pos (fM_y h98 (Int32.not_lt.mp h112) (Or.inl h122) (Or.inl h138))
               exact e9.symm)
            | (have e9 : fM_so mi f ma S (s + 1) = 1 := if_pos (fM_y h98 (Int32.not_lt.mp h112) (Or.inl h122) (Or.inr h149))
               exact e9.symm)
            | (have e9 : fM_so mi f ma S (s + 1) = 1 := if_pos (fM_y h98 (Int32.not_lt.mp h112) (Or.inr h133) (Or.inl h138))
               exact e9.symm)
            | (have e9 : fM_so mi f ma S (s + 1) = 1 := if_pos (fM_y h98 (Int32.not_lt.mp h112) (Or.inr h133) (Or.inr h149))
               exact e9.symm)
          · refine pm_aload_n dM_isSound_115 rfl (q := 116) rfl ?_
            refine pm_get fl_M_28 dM_isSound_116 hM rfl (q := 119) rfl ?_
            refine pm_iload dM_isSound_119 rfl (q := 121) rfl ?_
            refine pm_zaldN dM_isSound_121 hPg (hs3) (Nat.le_of_ble_eq_true rfl) (q := 122) rfl ?_
            refine pm_if_ne (tgt := 136) dM_isSound_122 rfl (q := 125) rfl (fun h122 => ?_) (fun h122 => ?_)
            · refine pm_iload dM_isSound_136 rfl (q := 138) rfl ?_
              refine pm_if_eq (tgt := 152) dM_isSound_138 rfl (q := 141) rfl (fun h138 => ?_) (fun h138 => ?_)
              · refine pm_iconst (x := 1) dM_isSound_152 (by decide) (q := 153) rfl ?_
                refine pm_goto (tgt := 157) dM_isSound_153 rfl ?_
                refine pm_topL (y := fM_so mi f ma S (s + 1)) ?_ hT
                first
                | (have e9 : fM_so mi f ma S (s + 1) = 0 := by simp [fM_so, h98]
                   exact e9.symm)
                | (have e9 : fM_so mi f ma S (s + 1) = 0 := if_neg (fM_n2 (Int32.not_le.mpr h112))
                   exact e9.symm)
                | (have e9 : fM_so mi f ma S (s + 1) = 0 := if_neg (fM_n3 h122 h133)
                   exact e9.symm)
                | (have e9 : fM_so mi f ma S (s + 1) = 0 := if_neg (fM_n4 h138 h149)
                   exact e9.symm)
                | (have e9 : fM_so mi f ma S (s + 1) = 1 := if_pos (fM_y h98 (Int32.not_lt.mp h112) (Or.inl h122) (Or.inl h138))
                   exact e9.symm)
                | (have e9 : fM_so mi f ma S (s + 1) = 1 := if_pos (fM_y h98 (Int32.not_lt.mp h112) (Or.inl h122) (Or.inr h149))
                   exact e9.symm)
                | (have e9 : fM_so mi f ma S (s + 1) = 1 := if_pos (fM_y h98 (Int32.not_lt.mp h112) (Or.inr h133) (Or.inl h138))
                   exact e9.symm)
                | (have e9 : fM_so mi f ma S (s + 1) = 1 := if_pos (fM_y h98 (Int32.not_lt.mp h112) (Or.inr h133) (Or.inr h149))
                   exact e9.symm)
              · refine pm_aload_n dM_isSound_141 rfl (q := 142) rfl ?_
                refine pm_aload_n dM_isSound_142 rfl (q := 143) rfl ?_
                refine pm_iload dM_isSound_143 rfl (q := 145) rfl ?_
                refine pm_iconst (x := 2) dM_isSound_145 (by decide) (q := 146) rfl ?_
                refine pm_cV3i hK (kM_hasKind_x hl 1 (Nat.le_refl _) HA hY hf _ _) mo_M_hasKind im_M_hasKind se_M_hasKind lk_M_121 dM_isSound_146 (by omega) (Nat.le_of_ble_eq_true rfl) (Nat.zero_le _) (Nat.zero_le _) hM rfl rfl (q := 149) rfl ?_
                refine pm_if_ne (tgt := 156) dM_isSound_149 rfl (q := 152) rfl (fun h149 => ?_) (fun h149 => ?_)
                · refine pm_iconst (x := 0) dM_isSound_156 (by decide) (q := 157) rfl ?_
                  refine pm_topL (y := fM_so mi f ma S (s + 1)) ?_ hT
                  first
                  | (have e9 : fM_so mi f ma S (s + 1) = 0 := by simp [fM_so, h98]
                     exact e9.symm)
                  | (have e9 : fM_so mi f ma S (s + 1) = 0 := if_neg (fM_n2 (Int32.not_le.mpr h112))
                     exact e9.symm)
                  | (have e9 : fM_so mi f ma S (s + 1) = 0 := if_neg (fM_n3 h122 h133)
                     exact e9.symm)
                  | (have e9 : fM_so mi f ma S (s + 1) = 0 := if_neg (fM_n4 h138 h149)
                     exact e9.symm)
                  | (have e9 : fM_so mi f ma S (s + 1) = 1 := if_pos (fM_y h98 (Int32.not_lt.mp h112) (Or.inl h122) (Or.inl h138))
                     exact e9.symm)
                  | (have e9 : fM_so mi f ma S (s + 1) = 1 := if_pos (fM_y h98 (Int32.not_lt.mp h112) (Or.inl h122) (Or.inr h149))
                     exact e9.symm)
                  | (have e9 : fM_so mi f ma S (s + 1) = 1 := if_pos (fM_y h98 (Int32.not_lt.mp h112) (Or.inr h133) (Or.inl h138))
                     exact e9.symm)
                  | (have e9 : fM_so mi f ma S (s + 1) = 1 := if_pos (fM_y h98 (Int32.not_lt.mp h112) (Or.inr h133) (Or.inr h149))
                     exact e9.symm)
                · refine pm_iconst (x := 1) dM_isSound_152 (by decide) (q := 153) rfl ?_
                  refine pm_goto (tgt := 157) dM_isSound_153 rfl ?_
                  refine pm_topL (y := fM_so mi f ma S (s + 1)) ?_ hT
                  first
                  | (have e9 : fM_so mi f ma S (s + 1) = 0 := by simp [fM_so, h98]
                     exact e9.symm)
                  | (have e9 : fM_so mi f ma S (s + 1) = 0 := if_neg (fM_n2 (Int32.not_le.mpr h112))
                     exact e9.symm)
                  | (have e9 : fM_so mi f ma S (s + 1) = 0 := if_neg (fM_n3 h122 h133)
                     exact e9.symm)
                  | (have e9 : fM_so mi f ma S (s + 1) = 0 := if_neg (fM_n4 h138 h149)
                     exact e9.symm)
                  | (have e9 : fM_so mi f ma S (s + 1) = 1 := if_pos (fM_y h98 (Int32.not_lt.mp h112) (Or.inl h122) (Or.inl h138))
                     exact e9.symm)
                  | (have e9 : fM_so mi f ma S (s + 1) = 1 := if_pos (fM_y h98 (Int32.not_lt.mp h112) (Or.inl h122) (Or.inr h149))
                     exact e9.symm)
                  | (have e9 : fM_so mi f ma S (s + 1) = 1 := if_pos (fM_y h98 (Int32.not_lt.mp h112) (Or.inr h133) (Or.inl h138))
                     exact e9.symm)
                  | (have e9 : fM_so mi f ma S (s + 1) = 1 := if_pos (fM_y h98 (Int32.not_lt.mp h112) (Or.inr h133) (Or.inr h149))
                     exact e9.symm)
            · refine pm_aload_n dM_isSound_125 rfl (q := 126) rfl ?_
              refine pm_aload_n dM_isSound_126 rfl (q := 127) rfl ?_
              refine pm_iload dM_isSound_127 rfl (q := 129) rfl ?_
              refine pm_iconst (x := 1) dM_isSound_129 (by decide) (q := 130) rfl ?_
              refine pm_cV3i hK (kM_hasKind_x hl 1 (Nat.le_refl _) HA hY hf _ _) mo_M_hasKind im_M_hasKind se_M_hasKind lk_M_121 dM_isSound_130 (by omega) (Nat.le_of_ble_eq_true rfl) (Nat.zero_le _) (Nat.zero_le _) hM rfl rfl (q := 133) rfl ?_
              refine pm_if_ne (tgt := 156) dM_isSound_133 rfl (q := 136) rfl (fun h133 => ?_) (fun h133 => ?_)
              · refine pm_iconst (x := 0) dM_isSound_156 (by decide) (q := 157) rfl ?_
                refine pm_topL (y := fM_so mi f ma S (s + 1)) ?_ hT
                first
                | (have e9 : fM_so mi f ma S (s + 1) = 0 := by simp [fM_so, h98]
                   exact e9.symm)
                | (have e9 : fM_so mi f ma S (s + 1) = 0 := if_neg (fM_n2 (Int32.not_le.mpr h112))
                   exact e9.symm)
                | (have e9 : fM_so mi f ma S (s + 1) = 0 := if_neg (fM_n3 h122 h133)
                   exact e9.symm)
                | (have e9 : fM_so mi f ma S (s + 1) = 0 := if_neg (fM_n4 h138 h149)
                   exact e9.symm)
                | (have e9 : fM_so mi f ma S (s + 1) = 1 := if_pos (fM_y h98 (Int32.not_lt.mp h112) (Or.inl h122) (Or.inl h138))
                   exact e9.symm)
                | (have e9 : fM_so mi f ma S (s + 1) = 1 := if_pos (fM_y h98 (Int32.not_lt.mp h112) (Or.inl h122) (Or.inr h149))
                   exact e9.symm)
                | (have e9 : fM_so mi f ma S (s + 1) = 1 := if_pos (fM_y h98 (Int32.not_lt.mp h112) (Or.inr h133) (Or.inl h138))
                   exact e9.symm)
                | (have e9 : fM_so mi f ma S (s + 1) = 1 := if_pos (fM_y h98 (Int32.not_lt.mp h112) (Or.inr h133) (Or.inr h149))
                   exact e9.symm)
              · refine pm_iload dM_isSound_136 rfl (q := 138) rfl ?_
                refine pm_if_eq (tgt := 152) dM_isSound_138 rfl (q := 141) rfl (fun h138 => ?_) (fun h138 => ?_)
                · refine pm_iconst (x := 1) dM_isSound_152 (by decide) (q := 153) rfl ?_
                  refine pm_goto (tgt := 157) dM_isSound_153 rfl ?_
                  refine pm_topL (y := fM_so mi f ma S (s + 1)) ?_ hT
                  first
                  | (have e9 : fM_so mi f ma S (s + 1) = 0 := by simp [fM_so, h98]
                     exact e9.symm)
                  | (have e9 : fM_so mi f ma S (s + 1) = 0 := if_neg (fM_n2 (Int32.not_le.mpr h112))
                     exact e9.symm)
                  | (have e9 : fM_so mi f ma S (s + 1) = 0 := if_neg (fM_n3 h122 h133)
                     exact e9.symm)
                  | (have e9 : fM_so mi f ma S (s + 1) = 0 := if_neg (fM_n4 h138 h149)
                     exact e9.symm)
                  | (have e9 : fM_so mi f ma S (s + 1) = 1 := if_pos (fM_y h98 (Int32.not_lt.mp h112) (Or.inl h122) (Or.inl h138))
                     exact e9.symm)
                  | (have e9 : fM_so mi f ma S (s + 1) = 1 := if_pos (fM_y h98 (Int32.not_lt.mp h112) (Or.inl h122) (Or.inr h149))
                     exact e9.symm)
                  | (have e9 : fM_so mi f ma S (s + 1) = 1 := if_pos (fM_y h98 (Int32.not_lt.mp h112) (Or.inr h133) (Or.inl h138))
                     exact e9.symm)
                  | (have e9 : fM_so mi f ma S (s + 1) = 1 := if_pos (fM_y h98 (Int32.not_lt.mp h112) (Or.inr h133) (Or.inr h149))
                     exact e9.symm)
                · refine pm_aload_n dM_isSound_141 rfl (q := 142) rfl ?_
                  refine pm_aload_n dM_isSound_142 rfl (q := 143) rfl ?_
                  refine pm_iload dM_isSound_143 rfl (q := 145) rfl ?_
                  refine pm_iconst (x := 2) dM_isSound_145 (by decide) (q := 146) rfl ?_
                  refine pm_cV3i hK (kM_hasKind_x hl 1 (Nat.le_refl _) HA hY hf _ _) mo_M_hasKind im_M_hasKind se_M_hasKind lk_M_121 dM_isSound_146 (by omega) (Nat.le_of_ble_eq_true rfl) (Nat.zero_le _) (Nat.zero_le _) hM rfl rfl (q := 149) rfl ?_
                  refine pm_if_ne (tgt := 156) dM_isSound_149 rfl (q := 152) rfl (fun h149 => ?_) (fun h149 => ?_)
                  · refine pm_iconst (x := 0) dM_isSound_156 (by decide) (q := 157) rfl ?_
                    refine pm_topL (y := fM_so mi f ma S (s + 1)) ?_ hT
                    first
                    | (have e9 : fM_so mi f ma S (s + 1) = 0 := by simp [fM_so, h98]
                       exact e9.symm)
                    | (have e9 : fM_so mi f ma S (s + 1) = 0 := if_neg (fM_n2 (Int32.not_le.mpr h112))
                       exact e9.symm)
                    | (have e9 : fM_so mi f ma S (s + 1) = 0 := if_neg (fM_n3 h122 h133)
                       exact e9.symm)
                    | (have e9 : fM_so mi f ma S (s + 1) = 0 := if_neg (fM_n4 h138 h149)
                       exact e9.symm)
                    | (have e9 : fM_so mi f ma S (s + 1) = 1 := if_pos (fM_y h98 (Int32.not_lt.mp h112) (Or.inl h122) (Or.inl h138))
                       exact e9.symm)
                    | (have e9 : fM_so mi f ma S (s + 1) = 1 := if_pos (fM_y h98 (Int32.not_lt.mp h112) (Or.inl h122) (Or.inr h149))
                       exact e9.symm)
                    | (have e9 : fM_so mi f ma S (s + 1) = 1 := if_pos (fM_y h98 (Int32.not_lt.mp h112) (Or.inr h133) (Or.inl h138))
                       exact e9.symm)
                    | (have e9 : fM_so mi f ma S (s + 1) = 1 := if_pos (fM_y h98 (Int32.not_lt.mp h112) (Or.inr h133) (Or.inr h149))
                       exact e9.symm)
                  · refine pm_iconst (x := 1) dM_isSound_152 (by decide) (q := 153) rfl ?_
                    refine pm_goto (tgt := 157) dM_isSound_153 rfl ?_
                    refine pm_topL (y := fM_so mi f ma S (s + 1)) ?_ hT
                    first
                    | (have e9 : fM_so mi f ma S (s + 1) = 0 := by simp [fM_so, h98]
                       exact e9.symm)
                    | (have e9 : fM_so mi f ma S (s + 1) = 0 := if_neg (fM_n2 (Int32.not_le.mpr h112))
                       exact e9.symm)
                    | (have e9 : fM_so mi f ma S (s + 1) = 0 := if_neg (fM_n3 h122 h133)
                       exact e9.symm)
                    | (have e9 : fM_so mi f ma S (s + 1) = 0 := if_neg (fM_n4 h138 h149)
                       exact e9.symm)
                    | (have e9 : fM_so mi f ma S (s + 1) = 1 := if_pos (fM_y h98 (Int32.not_lt.mp h112) (Or.inl h122) (Or.inl h138))
                       exact e9.symm)
                    | (have e9 : fM_so mi f ma S (s + 1) = 1 := if_pos (fM_y h98 (Int32.not_lt.mp h112) (Or.inl h122) (Or.inr h149))
                       exact e9.symm)
                    | (have e9 : fM_so mi f ma S (s + 1) = 1 := if_pos (fM_y h98 (Int32.not_lt.mp h112) (Or.inr h133) (Or.inl h138))
                       exact e9.symm)
                    | (have e9 : fM_so mi f ma S (s + 1) = 1 := if_pos (fM_y h98 (Int32.not_lt.mp h112) (Or.inr h133) (Or.inr h149))
                       exact e9.symm)
      refine pm_iload dM_isSound_44 rfl (q := 46) rfl ?_
      refine pm_aload_n dM_isSound_46 rfl (q := 47) rfl ?_
      refine pm_get fl_M_7 dM_isSound_47 hM rfl (q := 50) rfl ?_
      refine pm_icmp_ge (tgt := 164) dM_isSound_50 rfl (q := 53) rfl (fun z => absurd z (by rw [hS]; exact nI_ge hsS (by omega))) (fun _ => ?_)
      refine pm_aload_n dM_isSound_53 rfl (q := 54) rfl ?_
      refine pm_aload_n dM_isSound_54 rfl (q := 55) rfl ?_
      refine pm_iload dM_isSound_55 rfl (q := 57) rfl ?_
      refine pm_iconst (x := 1) dM_isSound_57 (by decide) (q := 58) rfl ?_
      refine pm_isub dM_isSound_58 (q := 59) rfl ?_
      refine pm_iconst (x := 3) dM_isSound_59 (by decide) (q := 60) rfl ?_
      refine pm_cV3i hK (kM_hasKind_x hl 1 (Nat.le_refl _) HA hY hf _ _) mo_M_hasKind im_M_hasKind se_M_hasKind lk_M_121 dM_isSound_60 (by omega) (Nat.le_of_ble_eq_true rfl) (Nat.zero_le _) (Nat.zero_le _) hM rfl rfl (q := 63) rfl ?_
      refine pm_if_ne (tgt := 90) dM_isSound_63 rfl (q := 66) rfl (fun h63 => ?_) (fun h63 => ?_)
      · refine pm_iconst (x := 1) dM_isSound_90 (by decide) (q := 91) rfl ?_
        refine pm_goto (tgt := 95) dM_isSound_91 rfl ?_
        refine pm_topL (y := fM_near f (ma 4) (nI s)) ?_ hN
        first
        | exact (if_pos (Or.inl h63)).symm
        | exact (if_pos (Or.inr (Or.inl h74))).symm
        | exact (if_pos (Or.inr (Or.inr h87))).symm
        | (have e9 : fM_near f (ma 4) (nI s) = 0 := by simp [fM_near, h63, h74, h87]
           exact e9.symm)
      · refine pm_aload_n dM_isSound_66 rfl (q := 67) rfl ?_
        refine pm_aload_n dM_isSound_67 rfl (q := 68) rfl ?_
        refine pm_iload dM_isSound_68 rfl (q := 70) rfl ?_
        refine pm_iconst (x := 3) dM_isSound_70 (by decide) (q := 71) rfl ?_
        refine pm_cV3i hK (kM_hasKind_x hl 1 (Nat.le_refl _) HA hY hf _ _) mo_M_hasKind im_M_hasKind se_M_hasKind lk_M_121 dM_isSound_71 (by omega) (Nat.le_of_ble_eq_true rfl) (Nat.zero_le _) (Nat.zero_le _) hM rfl rfl (q := 74) rfl ?_
        refine pm_if_ne (tgt := 90) dM_isSound_74 rfl (q := 77) rfl (fun h74 => ?_) (fun h74 => ?_)
        · refine pm_iconst (x := 1) dM_isSound_90 (by decide) (q := 91) rfl ?_
          refine pm_goto (tgt := 95) dM_isSound_91 rfl ?_
          refine pm_topL (y := fM_near f (ma 4) (nI s)) ?_ hN
          first
          | exact (if_pos (Or.inl h63)).symm
          | exact (if_pos (Or.inr (Or.inl h74))).symm
          | exact (if_pos (Or.inr (Or.inr h87))).symm
          | (have e9 : fM_near f (ma 4) (nI s) = 0 := by simp [fM_near, h63, h74, h87]
             exact e9.symm)
        · refine pm_aload_n dM_isSound_77 rfl (q := 78) rfl ?_
          refine pm_aload_n dM_isSound_78 rfl (q := 79) rfl ?_
          refine pm_iload dM_isSound_79 rfl (q := 81) rfl ?_
          refine pm_iconst (x := 1) dM_isSound_81 (by decide) (q := 82) rfl ?_
          refine pm_iadd dM_isSound_82 (q := 83) rfl ?_
          refine pm_iconst (x := 3) dM_isSound_83 (by decide) (q := 84) rfl ?_
          refine pm_cV3i hK (kM_hasKind_x hl 1 (Nat.le_refl _) HA hY hf _ _) mo_M_hasKind im_M_hasKind se_M_hasKind lk_M_121 dM_isSound_84 (by omega) (Nat.le_of_ble_eq_true rfl) (Nat.zero_le _) (Nat.zero_le _) hM rfl rfl (q := 87) rfl ?_
          refine pm_if_eq (tgt := 94) dM_isSound_87 rfl (q := 90) rfl (fun h87 => ?_) (fun h87 => ?_)
          · refine pm_iconst (x := 0) dM_isSound_94 (by decide) (q := 95) rfl ?_
            refine pm_topL (y := fM_near f (ma 4) (nI s)) ?_ hN
            first
            | exact (if_pos (Or.inl h63)).symm
            | exact (if_pos (Or.inr (Or.inl h74))).symm
            | exact (if_pos (Or.inr (Or.inr h87))).symm
            | (have e9 : fM_near f (ma 4) (nI s) = 0 := by simp [fM_near, h63, h74, h87]
               exact e9.symm)
          · refine pm_iconst (x := 1) dM_isSound_90 (by decide) (q := 91) rfl ?_
            refine pm_goto (tgt := 95) dM_isSound_91 rfl ?_
            refine pm_topL (y := fM_near f (ma 4) (nI s)) ?_ hN
            first
            | exact (if_pos (Or.inl h63)).symm
            | exact (if_pos (Or.inr (Or.inl h74))).symm
            | exact (if_pos (Or.inr (Or.inr h87))).symm
            | (have e9 : fM_near f (ma 4) (nI s) = 0 := by simp [fM_near, h63, h74, h87]
               exact e9.symm)
  have hG : pm_Go mM_isSound K G 40 [some (.ref 31), some (.ref t), some (.int (fM_l mi f (ma 3) S)), none, none, none] [.int (fM_so mi f ma S 0)] h 0 0 := by
    refine pm_istore_n dM_isSound_40 (by decide) (q := 41) rfl ?_
    refine pm_iconst (x := 0) dM_isSound_41 (by decide) (q := 42) rfl ?_
    refine pm_istore dM_isSound_42 (by decide) (q := 44) rfl ?_
    exact hL S 0 _ (by omega)
  refine pm_aload_n dM_isSound_0 rfl (q := 1) rfl ?_
  refine pm_aload_n dM_isSound_1 rfl (q := 2) rfl ?_
  refine pm_cV1i hK (kM_listOf hl 1 (Nat.le_refl _) HA hY hf hS hS3) mo_M_listOf im_M_listOf se_M_listOf lk_M_114 dM_isSound_2 (by omega) (Nat.le_of_ble_eq_true rfl) (Nat.zero_le _) (Nat.zero_le _) hM rfl rfl (q := 5) rfl ?_
  refine pm_istore_n dM_isSound_5 (by decide) (q := 6) rfl ?_
  refine pm_aload_n dM_isSound_6 rfl (q := 7) rfl ?_
  refine pm_aload_n dM_isSound_7 rfl (q := 8) rfl ?_
  refine pm_cV1i hK (kM_verticalOf hl 0 HA hY hf) mo_M_verticalOf im_M_verticalOf se_M_verticalOf lk_M_118 dM_isSound_8 (by omega) (Nat.le_of_ble_eq_true rfl) (Nat.zero_le _) (Nat.zero_le _) hM rfl rfl (q := 11) rfl ?_
  refine pm_aload_n dM_isSound_11 rfl (q := 12) rfl ?_
  refine pm_get fl_M_22 dM_isSound_12 hM rfl (q := 15) rfl ?_
  refine pm_icmp_gt (tgt := 39) dM_isSound_15 rfl (q := 18) rfl (fun h15 => ?_) (fun h15 => ?_)
  · refine pm_iconst (x := 0) dM_isSound_39 (by decide) (q := 40) rfl ?_
    refine pm_topL (y := fM_so mi f ma S 0) ?_ hG
    first
    | (have e9 : fM_so mi f ma S 0 = 1 := if_pos ⟨Int32.not_lt.mp h15, Int32.not_lt.mp h23, Int32.not_lt.mp h32⟩
       exact e9.symm)
    | (have e9 : fM_so mi f ma S 0 = 0 := if_neg (fM_m1 (Int32.not_le.mpr h15))
       exact e9.symm)
    | (have e9 : fM_so mi f ma S 0 = 0 := if_neg (fM_m2 (Int32.not_le.mpr h23))
       exact e9.symm)
    | (have e9 : fM_so mi f ma S 0 = 0 := if_neg (fM_m3 (Int32.not_le.mpr h32))
       exact e9.symm)
  · refine pm_iload_n dM_isSound_18 rfl (q := 19) rfl ?_
    refine pm_aload_n dM_isSound_19 rfl (q := 20) rfl ?_
    refine pm_get fl_M_25 dM_isSound_20 hM rfl (q := 23) rfl ?_
    refine pm_icmp_gt (tgt := 39) dM_isSound_23 rfl (q := 26) rfl (fun h23 => ?_) (fun h23 => ?_)
    · refine pm_iconst (x := 0) dM_isSound_39 (by decide) (q := 40) rfl ?_
      refine pm_topL (y := fM_so mi f ma S 0) ?_ hG
      first
      | (have e9 : fM_so mi f ma S 0 = 1 := if_pos ⟨Int32.not_lt.mp h15, Int32.not_lt.mp h23, Int32.not_lt.mp h32⟩
         exact e9.symm)
      | (have e9 : fM_so mi f ma S 0 = 0 := if_neg (fM_m1 (Int32.not_le.mpr h15))
         exact e9.symm)
      | (have e9 : fM_so mi f ma S 0 = 0 := if_neg (fM_m2 (Int32.not_le.mpr h23))
         exact e9.symm)
      | (have e9 : fM_so mi f ma S 0 = 0 := if_neg (fM_m3 (Int32.not_le.mpr h32))
         exact e9.symm)
    · refine pm_iload_n dM_isSound_26 rfl (q := 27) rfl ?_
      refine pm_ineg dM_isSound_27 (q := 28) rfl ?_
      refine pm_aload_n dM_isSound_28 rfl (q := 29) rfl ?_
      refine pm_get fl_M_25 dM_isSound_29 hM rfl (q := 32) rfl ?_
      refine pm_icmp_gt (tgt := 39) dM_isSound_32 rfl (q := 35) rfl (fun h32 => ?_) (fun h32 => ?_)
      · refine pm_iconst (x := 0) dM_isSound_39 (by decide) (q := 40) rfl ?_
        refine pm_topL (y := fM_so mi f ma S 0) ?_ hG
        first
        | (have e9 : fM_so mi f ma S 0 = 1 := if_pos ⟨Int32.not_lt.mp h15, Int32.not_lt.mp h23, Int32.not_lt.mp h32⟩
           exact e9.symm)
        | (have e9 : fM_so mi f ma S 0 = 0 := if_neg (fM_m1 (Int32.not_le.mpr h15))
           exact e9.symm)
        | (have e9 : fM_so mi f ma S 0 = 0 := if_neg (fM_m2 (Int32.not_le.mpr h23))
           exact e9.symm)
        | (have e9 : fM_so mi f ma S 0 = 0 := if_neg (fM_m3 (Int32.not_le.mpr h32))
           exact e9.symm)
      · refine pm_iconst (x := 1) dM_isSound_35 (by decide) (q := 36) rfl ?_
        refine pm_goto (tgt := 40) dM_isSound_36 rfl ?_
        refine pm_topL (y := fM_so mi f ma S 0) ?_ hG
        first
        | (have e9 : fM_so mi f ma S 0 = 1 := if_pos ⟨Int32.not_lt.mp h15, Int32.not_lt.mp h23, Int32.not_lt.mp h32⟩
           exact e9.symm)
        | (have e9 : fM_so mi f ma S 0 = 0 := if_neg (fM_m1 (Int32.not_le.mpr h15))
           exact e9.symm)
        | (have e9 : fM_so mi f ma S 0 = 0 := if_neg (fM_m2 (Int32.not_le.mpr h23))
           exact e9.symm)
        | (have e9 : fM_so mi f ma S 0 = 0 := if_neg (fM_m3 (Int32.not_le.mpr h32))
           exact e9.symm)
