/-! the model: report -/
theorem fM_nn {a : Prop} (h : a) : ¬ ¬ a := fun z => z h
theorem fM_3 {a b c : Prop} (h1 : a) (h2 : b) (h3 : c) : a ∧ b ∧ c := ⟨h1, h2, h3⟩
def fMr0 (ma : Nat → Nat → Int32) (q : Int32) : Nat → Int32
  | 0 => 0
  | j + 1 => if ma 11 j = q ∧ ¬ ma 13 j < 0 ∧ ma 1 (ma 10 j).toNatClampNeg = q then fMr0 ma q j + 1 else fMr0 ma q j
set_option maxHeartbeats 8000000 in
theorem kM_report_0 {l : Launch} (hl : l.stackTraces = false) (d : Nat) (hd : 1 ≤ d) {pd : Int32} {si : Nat → Int32} {sa : Nat → Nat → Int32} {hv : Nat → Int32} {ha : Nat → Nat → Nat → Int32} {sl : Int32} {sc : Nat → Nat → Int32} {pl : Int32} {pa : Nat → Nat → Int32} {mi : Nat → Int32} {ma : Nat → Nat → Int32} {tl : pm_H} (q : Int32) {N : Nat} (hN : mi 19 = nI N) (hN6 : N ≤ 60) (hbx : ∀ j, j < N → vp_in (ma 10 j) 5) (k0 : ¬ fw q 0 (mi 3 - 1) = 0) : pm_Sem l d mM_report [.ref 31, .int q, .int 0] (cH pd si sa hv ha sl sc pl pa (mH (mi) (ma) tl)) (some (.int (fMr0 ma q N))) (cH pd si sa hv ha sl sc pl pa (mH (up1 mi 0 0) (ma) tl)) := by
  refine pm_sem hl mo_M_report ⟨_, rfl, rfl⟩ rfl rfl (Nat.le_of_ble_eq_true rfl) (fun K G hK hret => ?_)
  have hL : ∀ (m j : Nat) (o1 o2 o3 : Option Value), m + j = N → pm_Go mM_report K G 43 [some (.ref 31), some (.int q), some (.int 0), some (.int (fMr0 ma q j)), some (.int (nI j)), o1, o2, o3] [] (cH pd si sa hv ha sl sc pl pa (mH (up1 mi 0 0) (ma) tl)) 0 0 := by
    intro m
    induction m with
    | zero =>
      intro j o1 o2 o3 hj
      have hj : j = N := by omega
      subst hj
      refine pm_iload dM_report_43 rfl (q := 45) rfl ?_
      refine pm_aload_n dM_report_45 rfl (q := 46) rfl ?_
      refine pm_get fl_M_89 dM_report_46 rfl rfl (q := 49) rfl ?_
      refine pm_icmp_ge (tgt := 195) dM_report_49 rfl (q := 52) rfl (fun _ => ?_) (fun z => absurd (by show mi 19 ≤ nI j; rw [hN]; exact nI_le (Nat.le_refl _) (by omega)) z)
      refine pm_iload_n dM_report_195 rfl (q := 196) rfl ?_
      exact pm_retI hret dM_report_196 rfl
    | succ m ih =>
      intro j o1 o2 o3 hj
      have hj6 : j < 60 := by omega
      have hb := hbx j (by omega)
      refine pm_iload dM_report_43 rfl (q := 45) rfl ?_
      refine pm_aload_n dM_report_45 rfl (q := 46) rfl ?_
      refine pm_get fl_M_89 dM_report_46 rfl rfl (q := 49) rfl ?_
      refine pm_icmp_ge (tgt := 195) dM_report_49 rfl (q := 52) rfl (fun z => absurd z (by show ¬ mi 19 ≤ nI j; rw [hN]; exact nI_ge (by omega) (by omega))) (fun _ => ?_)
      refine pm_aload_n dM_report_52 rfl (q := 53) rfl ?_
      refine pm_get fl_M_69 dM_report_53 rfl rfl (q := 56) rfl ?_
      refine pm_iload dM_report_56 rfl (q := 58) rfl ?_
      refine pm_ialdN dM_report_58 rfl hj6 (Nat.le_of_ble_eq_true rfl) (q := 59) rfl ?_
      refine pm_if_lt (tgt := 66) dM_report_59 rfl (q := 62) rfl (fun h59 => ?_) (fun h59 => ?_)
      · refine pm_iconst (x := 0) dM_report_66 (by decide) (q := 67) rfl ?_
        refine pm_istore dM_report_67 (by decide) (q := 69) rfl ?_
        refine pm_aload_n dM_report_69 rfl (q := 70) rfl ?_
        refine pm_get fl_M_32 dM_report_70 rfl rfl (q := 73) rfl ?_
        refine pm_aload_n dM_report_73 rfl (q := 74) rfl ?_
        refine pm_get fl_M_60 dM_report_74 rfl rfl (q := 77) rfl ?_
        refine pm_iload dM_report_77 rfl (q := 79) rfl ?_
        refine pm_ialdN dM_report_79 rfl hj6 (Nat.le_of_ble_eq_true rfl) (q := 80) rfl ?_
        refine pm_iald dM_report_80 rfl hb (q := 81) rfl ?_
        refine pm_iload_n dM_report_81 rfl (q := 82) rfl ?_
        refine pm_icmp_ne (tgt := 89) dM_report_82 rfl (q := 85) rfl (fun h82 => ?_) (fun h82 => ?_)
        · refine pm_iconst (x := 0) dM_report_89 (by decide) (q := 90) rfl ?_
          refine pm_istore dM_report_90 (by decide) (q := 92) rfl ?_
          refine pm_iload_n dM_report_92 rfl (q := 93) rfl ?_
          refine pm_if_ne (tgt := 114) dM_report_93 rfl (q := 96) rfl (fun h => absurd h (by decide)) (fun _ => ?_)
          refine pm_iload dM_report_96 rfl (q := 98) rfl ?_
          refine pm_if_eq (tgt := 110) dM_report_98 rfl (q := 101) rfl (fun _ => ?_) (fun h => absurd h (by decide))
          refine pm_iconst (x := 0) dM_report_110 (by decide) (q := 111) rfl ?_
          refine pm_goto (tgt := 163) dM_report_111 rfl ?_
          refine pm_istore dM_report_163 (by decide) (q := 165) rfl ?_
          refine pm_aload_n dM_report_165 rfl (q := 166) rfl ?_
          refine pm_get fl_M_63 dM_report_166 rfl rfl (q := 169) rfl ?_
          refine pm_iload dM_report_169 rfl (q := 171) rfl ?_
          refine pm_ialdN dM_report_171 rfl hj6 (Nat.le_of_ble_eq_true rfl) (q := 172) rfl ?_
          refine pm_iload_n dM_report_172 rfl (q := 173) rfl ?_
          refine pm_icmp_ne (tgt := 187) dM_report_173 rfl (q := 176) rfl (fun h173 => ?_) (fun h173 => ?_)
          · refine pm_iload_n dM_report_187 rfl (q := 188) rfl ?_
            refine pm_istore_n dM_report_188 (by decide) (q := 189) rfl ?_
            refine pm_iincL dM_report_189 rfl (by decide) (y := nI (j + 1)) (by rw [nI_succ]; rfl) (q := 192) rfl ?_
            refine pm_goto (tgt := 43) dM_report_192 rfl ?_
            first
            | (have e8 : ¬ (ma 11 j = q ∧ ¬ ma 13 j < 0 ∧ ma 1 (ma 10 j).toNatClampNeg = q) := fM_m1 h173
               have e9 : fMr0 ma q (j + 1) = fMr0 ma q j := if_neg e8
               have y := fun o1 o2 o3 => ih (j + 1) o1 o2 o3 (by omega)
               rw [e9] at y
               exact y _ _ _)
            | (have e8 : ¬ (ma 11 j = q ∧ ¬ ma 13 j < 0 ∧ ma 1 (ma 10 j).toNatClampNeg = q) := fM_m2 (fM_nn h59)
               have e9 : fMr0 ma q (j + 1) = fMr0 ma q j := if_neg e8
               have y := fun o1 o2 o3 => ih (j + 1) o1 o2 o3 (by omega)
               rw [e9] at y
               exact y _ _ _)
            | (have e8 : ¬ (ma 11 j = q ∧ ¬ ma 13 j < 0 ∧ ma 1 (ma 10 j).toNatClampNeg = q) := fM_m3 h82
               have e9 : fMr0 ma q (j + 1) = fMr0 ma q j := if_neg e8
               have y := fun o1 o2 o3 => ih (j + 1) o1 o2 o3 (by omega)
               rw [e9] at y
               exact y _ _ _)
            | (have e8 : ma 11 j = q ∧ ¬ ma 13 j < 0 ∧ ma 1 (ma 10 j).toNatClampNeg = q := fM_3 h173 h59 h82
               have e9 : fMr0 ma q (j + 1) = fMr0 ma q j + 1 := if_pos e8
               have y := fun o1 o2 o3 => ih (j + 1) o1 o2 o3 (by omega)
               rw [e9] at y
               exact y _ _ _)
          · refine pm_iload dM_report_176 rfl (q := 178) rfl ?_
            refine pm_if_eq (tgt := 187) dM_report_178 rfl (q := 181) rfl (fun _ => ?_) (fun h => absurd h (by decide))
            refine pm_iload_n dM_report_187 rfl (q := 188) rfl ?_
            refine pm_istore_n dM_report_188 (by decide) (q := 189) rfl ?_
            refine pm_iincL dM_report_189 rfl (by decide) (y := nI (j + 1)) (by rw [nI_succ]; rfl) (q := 192) rfl ?_
            refine pm_goto (tgt := 43) dM_report_192 rfl ?_
            first
            | (have e8 : ¬ (ma 11 j = q ∧ ¬ ma 13 j < 0 ∧ ma 1 (ma 10 j).toNatClampNeg = q) := fM_m1 h173
               have e9 : fMr0 ma q (j + 1) = fMr0 ma q j := if_neg e8
               have y := fun o1 o2 o3 => ih (j + 1) o1 o2 o3 (by omega)
               rw [e9] at y
               exact y _ _ _)
            | (have e8 : ¬ (ma 11 j = q ∧ ¬ ma 13 j < 0 ∧ ma 1 (ma 10 j).toNatClampNeg = q) := fM_m2 (fM_nn h59)
               have e9 : fMr0 ma q (j + 1) = fMr0 ma q j := if_neg e8
               have y := fun o1 o2 o3 => ih (j + 1) o1 o2 o3 (by omega)
               rw [e9] at y
               exact y _ _ _)
            | (have e8 : ¬ (ma 11 j = q ∧ ¬ ma 13 j < 0 ∧ ma 1 (ma 10 j).toNatClampNeg = q) := fM_m3 h82
               have e9 : fMr0 ma q (j + 1) = fMr0 ma q j := if_neg e8
               have y := fun o1 o2 o3 => ih (j + 1) o1 o2 o3 (by omega)
               rw [e9] at y
               exact y _ _ _)
            | (have e8 : ma 11 j = q ∧ ¬ ma 13 j < 0 ∧ ma 1 (ma 10 j).toNatClampNeg = q := fM_3 h173 h59 h82
               have e9 : fMr0 ma q (j + 1) = fMr0 ma q j + 1 := if_pos e8
               have y := fun o1 o2 o3 => ih (j + 1) o1 o2 o3 (by omega)
               rw [e9] at y
               exact y _ _ _)
        · refine pm_iconst (x := 1) dM_report_85 (by decide) (q := 86) rfl ?_
          refine pm_goto (tgt := 90) dM_report_86 rfl ?_
          refine pm_istore dM_report_90 (by decide) (q := 92) rfl ?_
          refine pm_iload_n dM_report_92 rfl (q := 93) rfl ?_
          refine pm_if_ne (tgt := 114) dM_report_93 rfl (q := 96) rfl (fun h => absurd h (by decide)) (fun _ => ?_)
          refine pm_iload dM_report_96 rfl (q := 98) rfl ?_
          refine pm_if_eq (tgt := 110) dM_report_98 rfl (q := 101) rfl (fun _ => ?_) (fun h => absurd h (by decide))
          refine pm_iconst (x := 0) dM_report_110 (by decide) (q := 111) rfl ?_
          refine pm_goto (tgt := 163) dM_report_111 rfl ?_
          refine pm_istore dM_report_163 (by decide) (q := 165) rfl ?_
          refine pm_aload_n dM_report_165 rfl (q := 166) rfl ?_
          refine pm_get fl_M_63 dM_report_166 rfl rfl (q := 169) rfl ?_
          refine pm_iload dM_report_169 rfl (q := 171) rfl ?_
          refine pm_ialdN dM_report_171 rfl hj6 (Nat.le_of_ble_eq_true rfl) (q := 172) rfl ?_
          refine pm_iload_n dM_report_172 rfl (q := 173) rfl ?_
          refine pm_icmp_ne (tgt := 187) dM_report_173 rfl (q := 176) rfl (fun h173 => ?_) (fun h173 => ?_)
          · refine pm_iload_n dM_report_187 rfl (q := 188) rfl ?_
            refine pm_istore_n dM_report_188 (by decide) (q := 189) rfl ?_
            refine pm_iincL dM_report_189 rfl (by decide) (y := nI (j + 1)) (by rw [nI_succ]; rfl) (q := 192) rfl ?_
            refine pm_goto (tgt := 43) dM_report_192 rfl ?_
            first
            | (have e8 : ¬ (ma 11 j = q ∧ ¬ ma 13 j < 0 ∧ ma 1 (ma 10 j).toNatClampNeg = q) := fM_m1 h173
               have e9 : fMr0 ma q (j + 1) = fMr0 ma q j := if_neg e8
               have y := fun o1 o2 o3 => ih (j + 1) o1 o2 o3 (by omega)
               rw [e9] at y
               exact y _ _ _)
            | (have e8 : ¬ (ma 11 j = q ∧ ¬ ma 13 j < 0 ∧ ma 1 (ma 10 j).toNatClampNeg = q) := fM_m2 (fM_nn h59)
               have e9 : fMr0 ma q (j + 1) = fMr0 ma q j := if_neg e8
               have y := fun o1 o2 o3 => ih (j + 1) o1 o2 o3 (by omega)
               rw [e9] at y
               exact y _ _ _)
            | (have e8 : ¬ (ma 11 j = q ∧ ¬ ma 13 j < 0 ∧ ma 1 (ma 10 j).toNatClampNeg = q) := fM_m3 h82
               have e9 : fMr0 ma q (j + 1) = fMr0 ma q j := if_neg e8
               have y := fun o1 o2 o3 => ih (j + 1) o1 o2 o3 (by omega)
               rw [e9] at y
               exact y _ _ _)
            | (have e8 : ma 11 j = q ∧ ¬ ma 13 j < 0 ∧ ma 1 (ma 10 j).toNatClampNeg = q := fM_3 h173 h59 h82
               have e9 : fMr0 ma q (j + 1) = fMr0 ma q j + 1 := if_pos e8
               have y := fun o1 o2 o3 => ih (j + 1) o1 o2 o3 (by omega)
               rw [e9] at y
               exact y _ _ _)
          · refine pm_iload dM_report_176 rfl (q := 178) rfl ?_
            refine pm_if_eq (tgt := 187) dM_report_178 rfl (q := 181) rfl (fun _ => ?_) (fun h => absurd h (by decide))
            refine pm_iload_n dM_report_187 rfl (q := 188) rfl ?_
            refine pm_istore_n dM_report_188 (by decide) (q := 189) rfl ?_
            refine pm_iincL dM_report_189 rfl (by decide) (y := nI (j + 1)) (by rw [nI_succ]; rfl) (q := 192) rfl ?_
            refine pm_goto (tgt := 43) dM_report_192 rfl ?_
            first
            | (have e8 : ¬ (ma 11 j = q ∧ ¬ ma 13 j < 0 ∧ ma 1 (ma 10 j).toNatClampNeg = q) := fM_m1 h173
               have e9 : fMr0 ma q (j + 1) = fMr0 ma q j := if_neg e8
               have y := fun o1 o2 o3 => ih (j + 1) o1 o2 o3 (by omega)
               rw [e9] at y
               exact y _ _ _)
            | (have e8 : ¬ (ma 11 j = q ∧ ¬ ma 13 j < 0 ∧ ma 1 (ma 10 j).toNatClampNeg = q) := fM_m2 (fM_nn h59)
               have e9 : fMr0 ma q (j + 1) = fMr0 ma q j := if_neg e8
               have y := fun o1 o2 o3 => ih (j + 1) o1 o2 o3 (by omega)
               rw [e9] at y
               exact y _ _ _)
            | (have e8 : ¬ (ma 11 j = q ∧ ¬ ma 13 j < 0 ∧ ma 1 (ma 10 j).toNatClampNeg = q) := fM_m3 h82
               have e9 : fMr0 ma q (j + 1) = fMr0 ma q j := if_neg e8
               have y := fun o1 o2 o3 => ih (j + 1) o1 o2 o3 (by omega)
               rw [e9] at y
               exact y _ _ _)
            | (have e8 : ma 11 j = q ∧ ¬ ma 13 j < 0 ∧ ma 1 (ma 10 j).toNatClampNeg = q := fM_3 h173 h59 h82
               have e9 : fMr0 ma q (j + 1) = fMr0 ma q j + 1 := if_pos e8
               have y := fun o1 o2 o3 => ih (j + 1) o1 o2 o3 (by omega)
               rw [e9] at y
               exact y _ _ _)
      · refine pm_iconst (x := 1) dM_report_62 (by decide) (q := 63) rfl ?_
        refine pm_goto (tgt := 67) dM_report_63 rfl ?_
        refine pm_istore dM_report_67 (by decide) (q := 69) rfl ?_
        refine pm_aload_n dM_report_69 rfl (q := 70) rfl ?_
        refine pm_get fl_M_32 dM_report_70 rfl rfl (q := 73) rfl ?_
        refine pm_aload_n dM_report_73 rfl (q := 74) rfl ?_
        refine pm_get fl_M_60 dM_report_74 rfl rfl (q := 77) rfl ?_
        refine pm_iload dM_report_77 rfl (q := 79) rfl ?_
        refine pm_ialdN dM_report_79 rfl hj6 (Nat.le_of_ble_eq_true rfl) (q := 80) rfl ?_
        refine pm_iald dM_report_80 rfl hb (q := 81) rfl ?_
        refine pm_iload_n dM_report_81 rfl (q := 82) rfl ?_
        refine pm_icmp_ne (tgt := 89) dM_report_82 rfl (q := 85) rfl (fun h82 => ?_) (fun h82 => ?_)
        · refine pm_iconst (x := 0) dM_report_89 (by decide) (q := 90) rfl ?_
          refine pm_istore dM_report_90 (by decide) (q := 92) rfl ?_
          refine pm_iload_n dM_report_92 rfl (q := 93) rfl ?_
          refine pm_if_ne (tgt := 114) dM_report_93 rfl (q := 96) rfl (fun h => absurd h (by decide)) (fun _ => ?_)
          refine pm_iload dM_report_96 rfl (q := 98) rfl ?_
          refine pm_if_eq (tgt := 110) dM_report_98 rfl (q := 101) rfl (fun h => absurd h (by decide)) (fun _ => ?_)
          refine pm_iload dM_report_101 rfl (q := 103) rfl ?_
          refine pm_if_eq (tgt := 110) dM_report_103 rfl (q := 106) rfl (fun _ => ?_) (fun h => absurd h (by decide))
          refine pm_iconst (x := 0) dM_report_110 (by decide) (q := 111) rfl ?_
          refine pm_goto (tgt := 163) dM_report_111 rfl ?_
          refine pm_istore dM_report_163 (by decide) (q := 165) rfl ?_
          refine pm_aload_n dM_report_165 rfl (q := 166) rfl ?_
          refine pm_get fl_M_63 dM_report_166 rfl rfl (q := 169) rfl ?_
          refine pm_iload dM_report_169 rfl (q := 171) rfl ?_
          refine pm_ialdN dM_report_171 rfl hj6 (Nat.le_of_ble_eq_true rfl) (q := 172) rfl ?_
          refine pm_iload_n dM_report_172 rfl (q := 173) rfl ?_
          refine pm_icmp_ne (tgt := 187) dM_report_173 rfl (q := 176) rfl (fun h173 => ?_) (fun h173 => ?_)
          · refine pm_iload_n dM_report_187 rfl (q := 188) rfl ?_
            refine pm_istore_n dM_report_188 (by decide) (q := 189) rfl ?_
            refine pm_iincL dM_report_189 rfl (by decide) (y := nI (j + 1)) (by rw [nI_succ]; rfl) (q := 192) rfl ?_
            refine pm_goto (tgt := 43) dM_report_192 rfl ?_
            first
            | (have e8 : ¬ (ma 11 j = q ∧ ¬ ma 13 j < 0 ∧ ma 1 (ma 10 j).toNatClampNeg = q) := fM_m1 h173
               have e9 : fMr0 ma q (j + 1) = fMr0 ma q j := if_neg e8
               have y := fun o1 o2 o3 => ih (j + 1) o1 o2 o3 (by omega)
               rw [e9] at y
               exact y _ _ _)
            | (have e8 : ¬ (ma 11 j = q ∧ ¬ ma 13 j < 0 ∧ ma 1 (ma 10 j).toNatClampNeg = q) := fM_m2 (fM_nn h59)
               have e9 : fMr0 ma q (j + 1) = fMr0 ma q j := if_neg e8
               have y := fun o1 o2 o3 => ih (j + 1) o1 o2 o3 (by omega)
               rw [e9] at y
               exact y _ _ _)
            | (have e8 : ¬ (ma 11 j = q ∧ ¬ ma 13 j < 0 ∧ ma 1 (ma 10 j).toNatClampNeg = q) := fM_m3 h82
               have e9 : fMr0 ma q (j + 1) = fMr0 ma q j := if_neg e8
               have y := fun o1 o2 o3 => ih (j + 1) o1 o2 o3 (by omega)
               rw [e9] at y
               exact y _ _ _)
            | (have e8 : ma 11 j = q ∧ ¬ ma 13 j < 0 ∧ ma 1 (ma 10 j).toNatClampNeg = q := fM_3 h173 h59 h82
               have e9 : fMr0 ma q (j + 1) = fMr0 ma q j + 1 := if_pos e8
               have y := fun o1 o2 o3 => ih (j + 1) o1 o2 o3 (by omega)
               rw [e9] at y
               exact y _ _ _)
          · refine pm_iload dM_report_176 rfl (q := 178) rfl ?_
            refine pm_if_eq (tgt := 187) dM_report_178 rfl (q := 181) rfl (fun _ => ?_) (fun h => absurd h (by decide))
            refine pm_iload_n dM_report_187 rfl (q := 188) rfl ?_
            refine pm_istore_n dM_report_188 (by decide) (q := 189) rfl ?_
            refine pm_iincL dM_report_189 rfl (by decide) (y := nI (j + 1)) (by rw [nI_succ]; rfl) (q := 192) rfl ?_
            refine pm_goto (tgt := 43) dM_report_192 rfl ?_
            first
            | (have e8 : ¬ (ma 11 j = q ∧ ¬ ma 13 j < 0 ∧ ma 1 (ma 10 j).toNatClampNeg = q) := fM_m1 h173
               have e9 : fMr0 ma q (j + 1) = fMr0 ma q j := if_neg e8
               have y := fun o1 o2 o3 => ih (j + 1) o1 o2 o3 (by omega)
               rw [e9] at y
               exact y _ _ _)
            | (have e8 : ¬ (ma 11 j = q ∧ ¬ ma 13 j < 0 ∧ ma 1 (ma 10 j).toNatClampNeg = q) := fM_m2 (fM_nn h59)
               have e9 : fMr0 ma q (j + 1) = fMr0 ma q j := if_neg e8
               have y := fun o1 o2 o3 => ih (j + 1) o1 o2 o3 (by omega)
               rw [e9] at y
               exact y _ _ _)
            | (have e8 : ¬ (ma 11 j = q ∧ ¬ ma 13 j < 0 ∧ ma 1 (ma 10 j).toNatClampNeg = q) := fM_m3 h82
               have e9 : fMr0 ma q (j + 1) = fMr0 ma q j := if_neg e8
               have y := fun o1 o2 o3 => ih (j + 1) o1 o2 o3 (by omega)
               rw [e9] at y
               exact y _ _ _)
            | (have e8 : ma 11 j = q ∧ ¬ ma 13 j < 0 ∧ ma 1 (ma 10 j).toNatClampNeg = q := fM_3 h173 h59 h82
               have e9 : fMr0 ma q (j + 1) = fMr0 ma q j + 1 := if_pos e8
               have y := fun o1 o2 o3 => ih (j + 1) o1 o2 o3 (by omega)
               rw [e9] at y
               exact y _ _ _)
        · refine pm_iconst (x := 1) dM_report_85 (by decide) (q := 86) rfl ?_
          refine pm_goto (tgt := 90) dM_report_86 rfl ?_
          refine pm_istore dM_report_90 (by decide) (q := 92) rfl ?_
          refine pm_iload_n dM_report_92 rfl (q := 93) rfl ?_
          refine pm_if_ne (tgt := 114) dM_report_93 rfl (q := 96) rfl (fun h => absurd h (by decide)) (fun _ => ?_)
          refine pm_iload dM_report_96 rfl (q := 98) rfl ?_
          refine pm_if_eq (tgt := 110) dM_report_98 rfl (q := 101) rfl (fun h => absurd h (by decide)) (fun _ => ?_)
          refine pm_iload dM_report_101 rfl (q := 103) rfl ?_
          refine pm_if_eq (tgt := 110) dM_report_103 rfl (q := 106) rfl (fun h => absurd h (by decide)) (fun _ => ?_)
          refine pm_iconst (x := 1) dM_report_106 (by decide) (q := 107) rfl ?_
          refine pm_goto (tgt := 163) dM_report_107 rfl ?_
          refine pm_istore dM_report_163 (by decide) (q := 165) rfl ?_
          refine pm_aload_n dM_report_165 rfl (q := 166) rfl ?_
          refine pm_get fl_M_63 dM_report_166 rfl rfl (q := 169) rfl ?_
          refine pm_iload dM_report_169 rfl (q := 171) rfl ?_
          refine pm_ialdN dM_report_171 rfl hj6 (Nat.le_of_ble_eq_true rfl) (q := 172) rfl ?_
          refine pm_iload_n dM_report_172 rfl (q := 173) rfl ?_
          refine pm_icmp_ne (tgt := 187) dM_report_173 rfl (q := 176) rfl (fun h173 => ?_) (fun h173 => ?_)
          · refine pm_iload_n dM_report_187 rfl (q := 188) rfl ?_
            refine pm_istore_n dM_report_188 (by decide) (q := 189) rfl ?_
            refine pm_iincL dM_report_189 rfl (by decide) (y := nI (j + 1)) (by rw [nI_succ]; rfl) (q := 192) rfl ?_
            refine pm_goto (tgt := 43) dM_report_192 rfl ?_
            first
            | (have e8 : ¬ (ma 11 j = q ∧ ¬ ma 13 j < 0 ∧ ma 1 (ma 10 j).toNatClampNeg = q) := fM_m1 h173
               have e9 : fMr0 ma q (j + 1) = fMr0 ma q j := if_neg e8
               have y := fun o1 o2 o3 => ih (j + 1) o1 o2 o3 (by omega)
               rw [e9] at y
               exact y _ _ _)
            | (have e8 : ¬ (ma 11 j = q ∧ ¬ ma 13 j < 0 ∧ ma 1 (ma 10 j).toNatClampNeg = q) := fM_m2 (fM_nn h59)
               have e9 : fMr0 ma q (j + 1) = fMr0 ma q j := if_neg e8
               have y := fun o1 o2 o3 => ih (j + 1) o1 o2 o3 (by omega)
               rw [e9] at y
               exact y _ _ _)
            | (have e8 : ¬ (ma 11 j = q ∧ ¬ ma 13 j < 0 ∧ ma 1 (ma 10 j).toNatClampNeg = q) := fM_m3 h82
               have e9 : fMr0 ma q (j + 1) = fMr0 ma q j := if_neg e8
               have y := fun o1 o2 o3 => ih (j + 1) o1 o2 o3 (by omega)
               rw [e9] at y
               exact y _ _ _)
            | (have e8 : ma 11 j = q ∧ ¬ ma 13 j < 0 ∧ ma 1 (ma 10 j).toNatClampNeg = q := fM_3 h173 h59 h82
               have e9 : fMr0 ma q (j + 1) = fMr0 ma q j + 1 := if_pos e8
               have y := fun o1 o2 o3 => ih (j + 1) o1 o2 o3 (by omega)
               rw [e9] at y
               exact y _ _ _)
          · refine pm_iload dM_report_176 rfl (q := 178) rfl ?_
            refine pm_if_eq (tgt := 187) dM_report_178 rfl (q := 181) rfl (fun h => absurd h (by decide)) (fun _ => ?_)
            refine pm_iload_n dM_report_181 rfl (q := 182) rfl ?_
            refine pm_iconst (x := 1) dM_report_182 (by decide) (q := 183) rfl ?_
            refine pm_iadd dM_report_183 (q := 184) rfl ?_
            refine pm_goto (tgt := 188) dM_report_184 rfl ?_
            refine pm_istore_n dM_report_188 (by decide) (q := 189) rfl ?_
            refine pm_iincL dM_report_189 rfl (by decide) (y := nI (j + 1)) (by rw [nI_succ]; rfl) (q := 192) rfl ?_
            refine pm_goto (tgt := 43) dM_report_192 rfl ?_
            first
            | (have e8 : ¬ (ma 11 j = q ∧ ¬ ma 13 j < 0 ∧ ma 1 (ma 10 j).toNatClampNeg = q) := fM_m1 h173
               have e9 : fMr0 ma q (j + 1) = fMr0 ma q j := if_neg e8
               have y := fun o1 o2 o3 => ih (j + 1) o1 o2 o3 (by omega)
               rw [e9] at y
               exact y _ _ _)
            | (have e8 : ¬ (ma 11 j = q ∧ ¬ ma 13 j < 0 ∧ ma 1 (ma 10 j).toNatClampNeg = q) := fM_m2 (fM_nn h59)
               have e9 : fMr0 ma q (j + 1) = fMr0 ma q j := if_neg e8
               have y := fun o1 o2 o3 => ih (j + 1) o1 o2 o3 (by omega)
               rw [e9] at y
               exact y _ _ _)
            | (have e8 : ¬ (ma 11 j = q ∧ ¬ ma 13 j < 0 ∧ ma 1 (ma 10 j).toNatClampNeg = q) := fM_m3 h82
               have e9 : fMr0 ma q (j + 1) = fMr0 ma q j := if_neg e8
               have y := fun o1 o2 o3 => ih (j + 1) o1 o2 o3 (by omega)
               rw [e9] at y
               exact y _ _ _)
            | (have e8 : ma 11 j = q ∧ ¬ ma 13 j < 0 ∧ ma 1 (ma 10 j).toNatClampNeg = q := fM_3 h173 h59 h82
               have e9 : fMr0 ma q (j + 1) = fMr0 ma q j + 1 := if_pos e8
               have y := fun o1 o2 o3 => ih (j + 1) o1 o2 o3 (by omega)
               rw [e9] at y
               exact y _ _ _)
  refine pm_aload_n dM_report_0 rfl (q := 1) rfl ?_
  refine pm_iload_n dM_report_1 rfl (q := 2) rfl ?_
  refine pm_iconst (x := 0) dM_report_2 (by decide) (q := 3) rfl ?_
  refine pm_aload_n dM_report_3 rfl (q := 4) rfl ?_
  refine pm_get fl_M_16 dM_report_4 rfl rfl (q := 7) rfl ?_
  refine pm_iconst (x := 1) dM_report_7 (by decide) (q := 8) rfl ?_
  refine pm_isub dM_report_8 (q := 9) rfl ?_
  refine pm_cS3i hK (kM_in hl 0 _ _ _ _) mo_M_in st_M_in lk_M_92 dM_report_9 (by omega) (Nat.le_of_ble_eq_true rfl) (Nat.zero_le _) (Nat.zero_le _) (q := 12) rfl ?_
  refine pm_if_eq (tgt := 24) dM_report_12 rfl (q := 15) rfl (fun z => absurd z k0) (fun _ => ?_)
  refine pm_iload_n dM_report_15 rfl (q := 16) rfl ?_
  refine pm_iconst (x := 0) dM_report_16 (by decide) (q := 17) rfl ?_
  refine pm_iconst (x := 2) dM_report_17 (by decide) (q := 18) rfl ?_
  refine pm_cS3i hK (kM_in hl 0 _ _ _ _) mo_M_in st_M_in lk_M_92 dM_report_18 (by omega) (Nat.le_of_ble_eq_true rfl) (Nat.zero_le _) (Nat.zero_le _) (q := 21) rfl ?_
  refine pm_if_ne (tgt := 28) dM_report_21 rfl (q := 24) rfl (fun _ => ?_) (fun z => absurd z (by decide))
  refine pm_iconst (x := 0) dM_report_28 (by decide) (q := 29) rfl ?_
  refine pm_iconst (x := 0) dM_report_29 (by decide) (q := 30) rfl ?_
  refine pm_cV2i hK (kM_refuse_0 hl 0 _ _ rfl rfl) mo_M_refuse im_M_refuse se_M_refuse lk_M_96 dM_report_30 (by omega) (Nat.le_of_ble_eq_true rfl) (Nat.zero_le _) (Nat.zero_le _) rfl rfl rfl (q := 33) rfl ?_
  refine pm_if_eq (tgt := 38) dM_report_33 rfl (q := 36) rfl (fun _ => ?_) (fun z => absurd rfl z)
  refine pm_iconst (x := 0) dM_report_38 (by decide) (q := 39) rfl ?_
  refine pm_istore_n dM_report_39 (by decide) (q := 40) rfl ?_
  refine pm_iconst (x := 0) dM_report_40 (by decide) (q := 41) rfl ?_
  refine pm_istore dM_report_41 (by decide) (q := 43) rfl ?_
  exact hL N 0 _ _ _ (by omega)
def fMr1 (ma : Nat → Nat → Int32) (q : Int32) : Nat → Int32
  | 0 => 0
  | j + 1 => if ma 11 j = q ∧ ma 13 j < 0 ∧ ma 2 (ma 10 j).toNatClampNeg = q then fMr1 ma q j + 1 else fMr1 ma q j
set_option maxHeartbeats 8000000 in
theorem kM_report_1 {l : Launch} (hl : l.stackTraces = false) (d : Nat) (hd : 1 ≤ d) {pd : Int32} {si : Nat → Int32} {sa : Nat → Nat → Int32} {hv : Nat → Int32} {ha : Nat → Nat → Nat → Int32} {sl : Int32} {sc : Nat → Nat → Int32} {pl : Int32} {pa : Nat → Nat → Int32} {mi : Nat → Int32} {ma : Nat → Nat → Int32} {tl : pm_H} (q : Int32) {N : Nat} (hN : mi 19 = nI N) (hN6 : N ≤ 60) (hbx : ∀ j, j < N → vp_in (ma 10 j) 5) (k0 : ¬ fw q 0 (mi 3 - 1) = 0) : pm_Sem l d mM_report [.ref 31, .int q, .int 1] (cH pd si sa hv ha sl sc pl pa (mH (mi) (ma) tl)) (some (.int (fMr1 ma q N))) (cH pd si sa hv ha sl sc pl pa (mH (up1 mi 0 0) (ma) tl)) := by
  refine pm_sem hl mo_M_report ⟨_, rfl, rfl⟩ rfl rfl (Nat.le_of_ble_eq_true rfl) (fun K G hK hret => ?_)
  have hL : ∀ (m j : Nat) (o1 o2 o3 : Option Value), m + j = N → pm_Go mM_report K G 43 [some (.ref 31), some (.int q), some (.int 1), some (.int (fMr1 ma q j)), some (.int (nI j)), o1, o2, o3] [] (cH pd si sa hv ha sl sc pl pa (mH (up1 mi 0 0) (ma) tl)) 0 0 := by
    intro m
    induction m with
    | zero =>
      intro j o1 o2 o3 hj
      have hj : j = N := by omega
      subst hj
      refine pm_iload dM_report_43 rfl (q := 45) rfl ?_
      refine pm_aload_n dM_report_45 rfl (q := 46) rfl ?_
      refine pm_get fl_M_89 dM_report_46 rfl rfl (q := 49) rfl ?_
      refine pm_icmp_ge (tgt := 195) dM_report_49 rfl (q := 52) rfl (fun _ => ?_) (fun z => absurd (by show mi 19 ≤ nI j; rw [hN]; exact nI_le (Nat.le_refl _) (by omega)) z)
      refine pm_iload_n dM_report_195 rfl (q := 196) rfl ?_
      exact pm_retI hret dM_report_196 rfl
    | succ m ih =>
      intro j o1 o2 o3 hj
      have hj6 : j < 60 := by omega
      have hb := hbx j (by omega)
      refine pm_iload dM_report_43 rfl (q := 45) rfl ?_
      refine pm_aload_n dM_report_45 rfl (q := 46) rfl ?_
      refine pm_get fl_M_89 dM_report_46 rfl rfl (q := 49) rfl ?_
      refine pm_icmp_ge (tgt := 195) dM_report_49 rfl (q := 52) rfl (fun z => absurd z (by show ¬ mi 19 ≤ nI j; rw [hN]; exact nI_ge (by omega) (by omega))) (fun _ => ?_)
      refine pm_aload_n dM_report_52 rfl (q := 53) rfl ?_
      refine pm_get fl_M_69 dM_report_53 rfl rfl (q := 56) rfl ?_
      refine pm_iload dM_report_56 rfl (q := 58) rfl ?_
      refine pm_ialdN dM_report_58 rfl hj6 (Nat.le_of_ble_eq_true rfl) (q := 59) rfl ?_
      refine pm_if_lt (tgt := 66) dM_report_59 rfl (q := 62) rfl (fun h59 => ?_) (fun h59 => ?_)
      · refine pm_iconst (x := 0) dM_report_66 (by decide) (q := 67) rfl ?_
        refine pm_istore dM_report_67 (by decide) (q := 69) rfl ?_
        refine pm_aload_n dM_report_69 rfl (q := 70) rfl ?_
        refine pm_get fl_M_32 dM_report_70 rfl rfl (q := 73) rfl ?_
        refine pm_aload_n dM_report_73 rfl (q := 74) rfl ?_
        refine pm_get fl_M_60 dM_report_74 rfl rfl (q := 77) rfl ?_
        refine pm_iload dM_report_77 rfl (q := 79) rfl ?_
        refine pm_ialdN dM_report_79 rfl hj6 (Nat.le_of_ble_eq_true rfl) (q := 80) rfl ?_
        refine pm_iald dM_report_80 rfl hb (q := 81) rfl ?_
        refine pm_iload_n dM_report_81 rfl (q := 82) rfl ?_
        refine pm_icmp_ne (tgt := 89) dM_report_82 rfl (q := 85) rfl (fun h82 => ?_) (fun h82 => ?_)
        · refine pm_iconst (x := 0) dM_report_89 (by decide) (q := 90) rfl ?_
          refine pm_istore dM_report_90 (by decide) (q := 92) rfl ?_
          refine pm_iload_n dM_report_92 rfl (q := 93) rfl ?_
          refine pm_if_ne (tgt := 114) dM_report_93 rfl (q := 96) rfl (fun _ => ?_) (fun h => absurd h (by decide))
          refine pm_iload_n dM_report_114 rfl (q := 115) rfl ?_
          refine pm_iconst (x := 1) dM_report_115 (by decide) (q := 116) rfl ?_
          refine pm_icmp_ne (tgt := 148) dM_report_116 rfl (q := 119) rfl (fun h => absurd h (by decide)) (fun _ => ?_)
          refine pm_iload dM_report_119 rfl (q := 121) rfl ?_
          refine pm_if_ne (tgt := 144) dM_report_121 rfl (q := 124) rfl (fun h => absurd h (by decide)) (fun _ => ?_)
          refine pm_aload_n dM_report_124 rfl (q := 125) rfl ?_
          refine pm_get fl_M_36 dM_report_125 rfl rfl (q := 128) rfl ?_
          refine pm_aload_n dM_report_128 rfl (q := 129) rfl ?_
          refine pm_get fl_M_60 dM_report_129 rfl rfl (q := 132) rfl ?_
          refine pm_iload dM_report_132 rfl (q := 134) rfl ?_
          refine pm_ialdN dM_report_134 rfl hj6 (Nat.le_of_ble_eq_true rfl) (q := 135) rfl ?_
          refine pm_iald dM_report_135 rfl hb (q := 136) rfl ?_
          refine pm_iload_n dM_report_136 rfl (q := 137) rfl ?_
          refine pm_icmp_ne (tgt := 144) dM_report_137 rfl (q := 140) rfl (fun h137 => ?_) (fun h137 => ?_)
          · refine pm_iconst (x := 0) dM_report_144 (by decide) (q := 145) rfl ?_
            refine pm_goto (tgt := 163) dM_report_145 rfl ?_
            refine pm_istore dM_report_163 (by decide) (q := 165) rfl ?_
            refine pm_aload_n dM_report_165 rfl (q := 166) rfl ?_
            refine pm_get fl_M_63 dM_report_166 rfl rfl (q := 169) rfl ?_
            refine pm_iload dM_report_169 rfl (q := 171) rfl ?_
            refine pm_ialdN dM_report_171 rfl hj6 (Nat.le_of_ble_eq_true rfl) (q := 172) rfl ?_
            refine pm_iload_n dM_report_172 rfl (q := 173) rfl ?_
            refine pm_icmp_ne (tgt := 187) dM_report_173 rfl (q := 176) rfl (fun h173 => ?_) (fun h173 => ?_)
            · refine pm_iload_n dM_report_187 rfl (q := 188) rfl ?_
              refine pm_istore_n dM_report_188 (by decide) (q := 189) rfl ?_
              refine pm_iincL dM_report_189 rfl (by decide) (y := nI (j + 1)) (by rw [nI_succ]; rfl) (q := 192) rfl ?_
              refine pm_goto (tgt := 43) dM_report_192 rfl ?_
              first
              | (have e8 : ¬ (ma 11 j = q ∧ ma 13 j < 0 ∧ ma 2 (ma 10 j).toNatClampNeg = q) := fM_m1 h173
                 have e9 : fMr1 ma q (j + 1) = fMr1 ma q j := if_neg e8
                 have y := fun o1 o2 o3 => ih (j + 1) o1 o2 o3 (by omega)
                 rw [e9] at y
                 exact y _ _ _)
              | (have e8 : ¬ (ma 11 j = q ∧ ma 13 j < 0 ∧ ma 2 (ma 10 j).toNatClampNeg = q) := fM_m2 h59
                 have e9 : fMr1 ma q (j + 1) = fMr1 ma q j := if_neg e8
                 have y := fun o1 o2 o3 => ih (j + 1) o1 o2 o3 (by omega)
                 rw [e9] at y
                 exact y _ _ _)
              | (have e8 : ¬ (ma 11 j = q ∧ ma 13 j < 0 ∧ ma 2 (ma 10 j).toNatClampNeg = q) := fM_m3 h137
                 have e9 : fMr1 ma q (j + 1) = fMr1 ma q j := if_neg e8
                 have y := fun o1 o2 o3 => ih (j + 1) o1 o2 o3 (by omega)
                 rw [e9] at y
                 exact y _ _ _)
              | (have e8 : ma 11 j = q ∧ ma 13 j < 0 ∧ ma 2 (ma 10 j).toNatClampNeg = q := fM_3 h173 h59 h137
                 have e9 : fMr1 ma q (j + 1) = fMr1 ma q j + 1 := if_pos e8
                 have y := fun o1 o2 o3 => ih (j + 1) o1 o2 o3 (by omega)
                 rw [e9] at y
                 exact y _ _ _)
            · refine pm_iload dM_report_176 rfl (q := 178) rfl ?_
              refine pm_if_eq (tgt := 187) dM_report_178 rfl (q := 181) rfl (fun _ => ?_) (fun h => absurd h (by decide))
              refine pm_iload_n dM_report_187 rfl (q := 188) rfl ?_
              refine pm_istore_n dM_report_188 (by decide) (q := 189) rfl ?_
              refine pm_iincL dM_report_189 rfl (by decide) (y := nI (j + 1)) (by rw [nI_succ]; rfl) (q := 192) rfl ?_
              refine pm_goto (tgt := 43) dM_report_192 rfl ?_
              first
              | (have e8 : ¬ (ma 11 j = q ∧ ma 13 j < 0 ∧ ma 2 (ma 10 j).toNatClampNeg = q) := fM_m1 h173
                 have e9 : fMr1 ma q (j + 1) = fMr1 ma q j := if_neg e8
                 have y := fun o1 o2 o3 => ih (j + 1) o1 o2 o3 (by omega)
                 rw [e9] at y
                 exact y _ _ _)
              | (have e8 : ¬ (ma 11 j = q ∧ ma 13 j < 0 ∧ ma 2 (ma 10 j).toNatClampNeg = q) := fM_m2 h59
                 have e9 : fMr1 ma q (j + 1) = fMr1 ma q j := if_neg e8
                 have y := fun o1 o2 o3 => ih (j + 1) o1 o2 o3 (by omega)
                 rw [e9] at y
                 exact y _ _ _)
              | (have e8 : ¬ (ma 11 j = q ∧ ma 13 j < 0 ∧ ma 2 (ma 10 j).toNatClampNeg = q) := fM_m3 h137
                 have e9 : fMr1 ma q (j + 1) = fMr1 ma q j := if_neg e8
                 have y := fun o1 o2 o3 => ih (j + 1) o1 o2 o3 (by omega)
                 rw [e9] at y
                 exact y _ _ _)
              | (have e8 : ma 11 j = q ∧ ma 13 j < 0 ∧ ma 2 (ma 10 j).toNatClampNeg = q := fM_3 h173 h59 h137
                 have e9 : fMr1 ma q (j + 1) = fMr1 ma q j + 1 := if_pos e8
                 have y := fun o1 o2 o3 => ih (j + 1) o1 o2 o3 (by omega)
                 rw [e9] at y
                 exact y _ _ _)
          · refine pm_iconst (x := 1) dM_report_140 (by decide) (q := 141) rfl ?_
            refine pm_goto (tgt := 163) dM_report_141 rfl ?_
            refine pm_istore dM_report_163 (by decide) (q := 165) rfl ?_
            refine pm_aload_n dM_report_165 rfl (q := 166) rfl ?_
            refine pm_get fl_M_63 dM_report_166 rfl rfl (q := 169) rfl ?_
            refine pm_iload dM_report_169 rfl (q := 171) rfl ?_
            refine pm_ialdN dM_report_171 rfl hj6 (Nat.le_of_ble_eq_true rfl) (q := 172) rfl ?_
            refine pm_iload_n dM_report_172 rfl (q := 173) rfl ?_
            refine pm_icmp_ne (tgt := 187) dM_report_173 rfl (q := 176) rfl (fun h173 => ?_) (fun h173 => ?_)
            · refine pm_iload_n dM_report_187 rfl (q := 188) rfl ?_
              refine pm_istore_n dM_report_188 (by decide) (q := 189) rfl ?_
              refine pm_iincL dM_report_189 rfl (by decide) (y := nI (j + 1)) (by rw [nI_succ]; rfl) (q := 192) rfl ?_
              refine pm_goto (tgt := 43) dM_report_192 rfl ?_
              first
              | (have e8 : ¬ (ma 11 j = q ∧ ma 13 j < 0 ∧ ma 2 (ma 10 j).toNatClampNeg = q) := fM_m1 h173
                 have e9 : fMr1 ma q (j + 1) = fMr1 ma q j := if_neg e8
                 have y := fun o1 o2 o3 => ih (j + 1) o1 o2 o3 (by omega)
                 rw [e9] at y
                 exact y _ _ _)
              | (have e8 : ¬ (ma 11 j = q ∧ ma 13 j < 0 ∧ ma 2 (ma 10 j).toNatClampNeg = q) := fM_m2 h59
                 have e9 : fMr1 ma q (j + 1) = fMr1 ma q j := if_neg e8
                 have y := fun o1 o2 o3 => ih (j + 1) o1 o2 o3 (by omega)
                 rw [e9] at y
                 exact y _ _ _)
              | (have e8 : ¬ (ma 11 j = q ∧ ma 13 j < 0 ∧ ma 2 (ma 10 j).toNatClampNeg = q) := fM_m3 h137
                 have e9 : fMr1 ma q (j + 1) = fMr1 ma q j := if_neg e8
                 have y := fun o1 o2 o3 => ih (j + 1) o1 o2 o3 (by omega)
                 rw [e9] at y
                 exact y _ _ _)
              | (have e8 : ma 11 j = q ∧ ma 13 j < 0 ∧ ma 2 (ma 10 j).toNatClampNeg = q := fM_3 h173 h59 h137
                 have e9 : fMr1 ma q (j + 1) = fMr1 ma q j + 1 := if_pos e8
                 have y := fun o1 o2 o3 => ih (j + 1) o1 o2 o3 (by omega)
                 rw [e9] at y
                 exact y _ _ _)
            · refine pm_iload dM_report_176 rfl (q := 178) rfl ?_
              refine pm_if_eq (tgt := 187) dM_report_178 rfl (q := 181) rfl (fun h => absurd h (by decide)) (fun _ => ?_)
              refine pm_iload_n dM_report_181 rfl (q := 182) rfl ?_
              refine pm_iconst (x := 1) dM_report_182 (by decide) (q := 183) rfl ?_
              refine pm_iadd dM_report_183 (q := 184) rfl ?_
              refine pm_goto (tgt := 188) dM_report_184 rfl ?_
              refine pm_istore_n dM_report_188 (by decide) (q := 189) rfl ?_
              refine pm_iincL dM_report_189 rfl (by decide) (y := nI (j + 1)) (by rw [nI_succ]; rfl) (q := 192) rfl ?_
              refine pm_goto (tgt := 43) dM_report_192 rfl ?_
              first
              | (have e8 : ¬ (ma 11 j = q ∧ ma 13 j < 0 ∧ ma 2 (ma 10 j).toNatClampNeg = q) := fM_m1 h173
                 have e9 : fMr1 ma q (j + 1) = fMr1 ma q j := if_neg e8
                 have y := fun o1 o2 o3 => ih (j + 1) o1 o2 o3 (by omega)
                 rw [e9] at y
                 exact y _ _ _)
              | (have e8 : ¬ (ma 11 j = q ∧ ma 13 j < 0 ∧ ma 2 (ma 10 j).toNatClampNeg = q) := fM_m2 h59
                 have e9 : fMr1 ma q (j + 1) = fMr1 ma q j := if_neg e8
                 have y := fun o1 o2 o3 => ih (j + 1) o1 o2 o3 (by omega)
                 rw [e9] at y
                 exact y _ _ _)
              | (have e8 : ¬ (ma 11 j = q ∧ ma 13 j < 0 ∧ ma 2 (ma 10 j).toNatClampNeg = q) := fM_m3 h137
                 have e9 : fMr1 ma q (j + 1) = fMr1 ma q j := if_neg e8
                 have y := fun o1 o2 o3 => ih (j + 1) o1 o2 o3 (by omega)
                 rw [e9] at y
                 exact y _ _ _)
              | (have e8 : ma 11 j = q ∧ ma 13 j < 0 ∧ ma 2 (ma 10 j).toNatClampNeg = q := fM_3 h173 h59 h137
                 have e9 : fMr1 ma q (j + 1) = fMr1 ma q j + 1 := if_pos e8
                 have y := fun o1 o2 o3 => ih (j + 1) o1 o2 o3 (by omega)
                 rw [e9] at y
                 exact y _ _ _)
        · refine pm_iconst (x := 1) dM_report_85 (by decide) (q := 86) rfl ?_
          refine pm_goto (tgt := 90) dM_report_86 rfl ?_
          refine pm_istore dM_report_90 (by decide) (q := 92) rfl ?_
          refine pm_iload_n dM_report_92 rfl (q := 93) rfl ?_
          refine pm_if_ne (tgt := 114) dM_report_93 rfl (q := 96) rfl (fun _ => ?_) (fun h => absurd h (by decide))
          refine pm_iload_n dM_report_114 rfl (q := 115) rfl ?_
          refine pm_iconst (x := 1) dM_report_115 (by decide) (q := 116) rfl ?_
          refine pm_icmp_ne (tgt := 148) dM_report_116 rfl (q := 119) rfl (fun h => absurd h (by decide)) (fun _ => ?_)
          refine pm_iload dM_report_119 rfl (q := 121) rfl ?_
          refine pm_if_ne (tgt := 144) dM_report_121 rfl (q := 124) rfl (fun h => absurd h (by decide)) (fun _ => ?_)
          refine pm_aload_n dM_report_124 rfl (q := 125) rfl ?_
          refine pm_get fl_M_36 dM_report_125 rfl rfl (q := 128) rfl ?_
          refine pm_aload_n dM_report_128 rfl (q := 129) rfl ?_
          refine pm_get fl_M_60 dM_report_129 rfl rfl (q := 132) rfl ?_
          refine pm_iload dM_report_132 rfl (q := 134) rfl ?_
          refine pm_ialdN dM_report_134 rfl hj6 (Nat.le_of_ble_eq_true rfl) (q := 135) rfl ?_
          refine pm_iald dM_report_135 rfl hb (q := 136) rfl ?_
          refine pm_iload_n dM_report_136 rfl (q := 137) rfl ?_
          refine pm_icmp_ne (tgt := 144) dM_report_137 rfl (q := 140) rfl (fun h137 => ?_) (fun h137 => ?_)
          · refine pm_iconst (x := 0) dM_report_144 (by decide) (q := 145) rfl ?_
            refine pm_goto (tgt := 163) dM_report_145 rfl ?_
            refine pm_istore dM_report_163 (by decide) (q := 165) rfl ?_
            refine pm_aload_n dM_report_165 rfl (q := 166) rfl ?_
            refine pm_get fl_M_63 dM_report_166 rfl rfl (q := 169) rfl ?_
            refine pm_iload dM_report_169 rfl (q := 171) rfl ?_
            refine pm_ialdN dM_report_171 rfl hj6 (Nat.le_of_ble_eq_true rfl) (q := 172) rfl ?_
            refine pm_iload_n dM_report_172 rfl (q := 173) rfl ?_
            refine pm_icmp_ne (tgt := 187) dM_report_173 rfl (q := 176) rfl (fun h173 => ?_) (fun h173 => ?_)
            · refine pm_iload_n dM_report_187 rfl (q := 188) rfl ?_
              refine pm_istore_n dM_report_188 (by decide) (q := 189) rfl ?_
              refine pm_iincL dM_report_189 rfl (by decide) (y := nI (j + 1)) (by rw [nI_succ]; rfl) (q := 192) rfl ?_
              refine pm_goto (tgt := 43) dM_report_192 rfl ?_
              first
              | (have e8 : ¬ (ma 11 j = q ∧ ma 13 j < 0 ∧ ma 2 (ma 10 j).toNatClampNeg = q) := fM_m1 h173
                 have e9 : fMr1 ma q (j + 1) = fMr1 ma q j := if_neg e8
                 have y := fun o1 o2 o3 => ih (j + 1) o1 o2 o3 (by omega)
                 rw [e9] at y
                 exact y _ _ _)
              | (have e8 : ¬ (ma 11 j = q ∧ ma 13 j < 0 ∧ ma 2 (ma 10 j).toNatClampNeg = q) := fM_m2 h59
                 have e9 : fMr1 ma q (j + 1) = fMr1 ma q j := if_neg e8
                 have y := fun o1 o2 o3 => ih (j + 1) o1 o2 o3 (by omega)
                 rw [e9] at y
                 exact y _ _ _)
              | (have e8 : ¬ (ma 11 j = q ∧ ma 13 j < 0 ∧ ma 2 (ma 10 j).toNatClampNeg = q) := fM_m3 h137
                 have e9 : fMr1 ma q (j + 1) = fMr1 ma q j := if_neg e8
                 have y := fun o1 o2 o3 => ih (j + 1) o1 o2 o3 (by omega)
                 rw [e9] at y
                 exact y _ _ _)
              | (have e8 : ma 11 j = q ∧ ma 13 j < 0 ∧ ma 2 (ma 10 j).toNatClampNeg = q := fM_3 h173 h59 h137
                 have e9 : fMr1 ma q (j + 1) = fMr1 ma q j + 1 := if_pos e8
                 have y := fun o1 o2 o3 => ih (j + 1) o1 o2 o3 (by omega)
                 rw [e9] at y
                 exact y _ _ _)
            · refine pm_iload dM_report_176 rfl (q := 178) rfl ?_
              refine pm_if_eq (tgt := 187) dM_report_178 rfl (q := 181) rfl (fun _ => ?_) (fun h => absurd h (by decide))
              refine pm_iload_n dM_report_187 rfl (q := 188) rfl ?_
              refine pm_istore_n dM_report_188 (by decide) (q := 189) rfl ?_
              refine pm_iincL dM_report_189 rfl (by decide) (y := nI (j + 1)) (by rw [nI_succ]; rfl) (q := 192) rfl ?_
              refine pm_goto (tgt := 43) dM_report_192 rfl ?_
              first
              | (have e8 : ¬ (ma 11 j = q ∧ ma 13 j < 0 ∧ ma 2 (ma 10 j).toNatClampNeg = q) := fM_m1 h173
                 have e9 : fMr1 ma q (j + 1) = fMr1 ma q j := if_neg e8
                 have y := fun o1 o2 o3 => ih (j + 1) o1 o2 o3 (by omega)
                 rw [e9] at y
                 exact y _ _ _)
              | (have e8 : ¬ (ma 11 j = q ∧ ma 13 j < 0 ∧ ma 2 (ma 10 j).toNatClampNeg = q) := fM_m2 h59
                 have e9 : fMr1 ma q (j + 1) = fMr1 ma q j := if_neg e8
                 have y := fun o1 o2 o3 => ih (j + 1) o1 o2 o3 (by omega)
                 rw [e9] at y
                 exact y _ _ _)
              | (have e8 : ¬ (ma 11 j = q ∧ ma 13 j < 0 ∧ ma 2 (ma 10 j).toNatClampNeg = q) := fM_m3 h137
                 have e9 : fMr1 ma q (j + 1) = fMr1 ma q j := if_neg e8
                 have y := fun o1 o2 o3 => ih (j + 1) o1 o2 o3 (by omega)
                 rw [e9] at y
                 exact y _ _ _)
              | (have e8 : ma 11 j = q ∧ ma 13 j < 0 ∧ ma 2 (ma 10 j).toNatClampNeg = q := fM_3 h173 h59 h137
                 have e9 : fMr1 ma q (j + 1) = fMr1 ma q j + 1 := if_pos e8
                 have y := fun o1 o2 o3 => ih (j + 1) o1 o2 o3 (by omega)
                 rw [e9] at y
                 exact y _ _ _)
          · refine pm_iconst (x := 1) dM_report_140 (by decide) (q := 141) rfl ?_
            refine pm_goto (tgt := 163) dM_report_141 rfl ?_
            refine pm_istore dM_report_163 (by decide) (q := 165) rfl ?_
            refine pm_aload_n dM_report_165 rfl (q := 166) rfl ?_
            refine pm_get fl_M_63 dM_report_166 rfl rfl (q := 169) rfl ?_
            refine pm_iload dM_report_169 rfl (q := 171) rfl ?_
            refine pm_ialdN dM_report_171 rfl hj6 (Nat.le_of_ble_eq_true rfl) (q := 172) rfl ?_
            refine pm_iload_n dM_report_172 rfl (q := 173) rfl ?_
            refine pm_icmp_ne (tgt := 187) dM_report_173 rfl (q := 176) rfl (fun h173 => ?_) (fun h173 => ?_)
            · refine pm_iload_n dM_report_187 rfl (q := 188) rfl ?_
              refine pm_istore_n dM_report_188 (by decide) (q := 189) rfl ?_
              refine pm_iincL dM_report_189 rfl (by decide) (y := nI (j + 1)) (by rw [nI_succ]; rfl) (q := 192) rfl ?_
              refine pm_goto (tgt := 43) dM_report_192 rfl ?_
              first
              | (have e8 : ¬ (ma 11 j = q ∧ ma 13 j < 0 ∧ ma 2 (ma 10 j).toNatClampNeg = q) := fM_m1 h173
                 have e9 : fMr1 ma q (j + 1) = fMr1 ma q j := if_neg e8
                 have y := fun o1 o2 o3 => ih (j + 1) o1 o2 o3 (by omega)
                 rw [e9] at y
                 exact y _ _ _)
              | (have e8 : ¬ (ma 11 j = q ∧ ma 13 j < 0 ∧ ma 2 (ma 10 j).toNatClampNeg = q) := fM_m2 h59
                 have e9 : fMr1 ma q (j + 1) = fMr1 ma q j := if_neg e8
                 have y := fun o1 o2 o3 => ih (j + 1) o1 o2 o3 (by omega)
                 rw [e9] at y
                 exact y _ _ _)
              | (have e8 : ¬ (ma 11 j = q ∧ ma 13 j < 0 ∧ ma 2 (ma 10 j).toNatClampNeg = q) := fM_m3 h137
                 have e9 : fMr1 ma q (j + 1) = fMr1 ma q j := if_neg e8
                 have y := fun o1 o2 o3 => ih (j + 1) o1 o2 o3 (by omega)
                 rw [e9] at y
                 exact y _ _ _)
              | (have e8 : ma 11 j = q ∧ ma 13 j < 0 ∧ ma 2 (ma 10 j).toNatClampNeg = q := fM_3 h173 h59 h137
                 have e9 : fMr1 ma q (j + 1) = fMr1 ma q j + 1 := if_pos e8
                 have y := fun o1 o2 o3 => ih (j + 1) o1 o2 o3 (by omega)
                 rw [e9] at y
                 exact y _ _ _)
            · refine pm_iload dM_report_176 rfl (q := 178) rfl ?_
              refine pm_if_eq (tgt := 187) dM_report_178 rfl (q := 181) rfl (fun h => absurd h (by decide)) (fun _ => ?_)
              refine pm_iload_n dM_report_181 rfl (q := 182) rfl ?_
              refine pm_iconst (x := 1) dM_report_182 (by decide) (q := 183) rfl ?_
              refine pm_iadd dM_report_183 (q := 184) rfl ?_
              refine pm_goto (tgt := 188) dM_report_184 rfl ?_
              refine pm_istore_n dM_report_188 (by decide) (q := 189) rfl ?_
              refine pm_iincL dM_report_189 rfl (by decide) (y := nI (j + 1)) (by rw [nI_succ]; rfl) (q := 192) rfl ?_
              refine pm_goto (tgt := 43) dM_report_192 rfl ?_
              first
              | (have e8 : ¬ (ma 11 j = q ∧ ma 13 j < 0 ∧ ma 2 (ma 10 j).toNatClampNeg = q) := fM_m1 h173
                 have e9 : fMr1 ma q (j + 1) = fMr1 ma q j := if_neg e8
                 have y := fun o1 o2 o3 => ih (j + 1) o1 o2 o3 (by omega)
                 rw [e9] at y
                 exact y _ _ _)
              | (have e8 : ¬ (ma 11 j = q ∧ ma 13 j < 0 ∧ ma 2 (ma 10 j).toNatClampNeg = q) := fM_m2 h59
                 have e9 : fMr1 ma q (j + 1) = fMr1 ma q j := if_neg e8
                 have y := fun o1 o2 o3 => ih (j + 1) o1 o2 o3 (by omega)
                 rw [e9] at y
                 exact y _ _ _)
              | (have e8 : ¬ (ma 11 j = q ∧ ma 13 j < 0 ∧ ma 2 (ma 10 j).toNatClampNeg = q) := fM_m3 h137
                 have e9 : fMr1 ma q (j + 1) = fMr1 ma q j := if_neg e8
                 have y := fun o1 o2 o3 => ih (j + 1) o1 o2 o3 (by omega)
                 rw [e9] at y
                 exact y _ _ _)
              | (have e8 : ma 11 j = q ∧ ma 13 j < 0 ∧ ma 2 (ma 10 j).toNatClampNeg = q := fM_3 h173 h59 h137
                 have e9 : fMr1 ma q (j + 1) = fMr1 ma q j + 1 := if_pos e8
                 have y := fun o1 o2 o3 => ih (j + 1) o1 o2 o3 (by omega)
                 rw [e9] at y
                 exact y _ _ _)
      · refine pm_iconst (x := 1) dM_report_62 (by decide) (q := 63) rfl ?_
        refine pm_goto (tgt := 67) dM_report_63 rfl ?_
        refine pm_istore dM_report_67 (by decide) (q := 69) rfl ?_
        refine pm_aload_n dM_report_69 rfl (q := 70) rfl ?_
        refine pm_get fl_M_32 dM_report_70 rfl rfl (q := 73) rfl ?_
        refine pm_aload_n dM_report_73 rfl (q := 74) rfl ?_
        refine pm_get fl_M_60 dM_report_74 rfl rfl (q := 77) rfl ?_
        refine pm_iload dM_report_77 rfl (q := 79) rfl ?_
        refine pm_ialdN dM_report_79 rfl hj6 (Nat.le_of_ble_eq_true rfl) (q := 80) rfl ?_
        refine pm_iald dM_report_80 rfl hb (q := 81) rfl ?_
        refine pm_iload_n dM_report_81 rfl (q := 82) rfl ?_
        refine pm_icmp_ne (tgt := 89) dM_report_82 rfl (q := 85) rfl (fun h82 => ?_) (fun h82 => ?_)
        · refine pm_iconst (x := 0) dM_report_89 (by decide) (q := 90) rfl ?_
          refine pm_istore dM_report_90 (by decide) (q := 92) rfl ?_
          refine pm_iload_n dM_report_92 rfl (q := 93) rfl ?_
          refine pm_if_ne (tgt := 114) dM_report_93 rfl (q := 96) rfl (fun _ => ?_) (fun h => absurd h (by decide))
          refine pm_iload_n dM_report_114 rfl (q := 115) rfl ?_
          refine pm_iconst (x := 1) dM_report_115 (by decide) (q := 116) rfl ?_
          refine pm_icmp_ne (tgt := 148) dM_report_116 rfl (q := 119) rfl (fun h => absurd h (by decide)) (fun _ => ?_)
          refine pm_iload dM_report_119 rfl (q := 121) rfl ?_
          refine pm_if_ne (tgt := 144) dM_report_121 rfl (q := 124) rfl (fun _ => ?_) (fun h => absurd h (by decide))
          refine pm_iconst (x := 0) dM_report_144 (by decide) (q := 145) rfl ?_
          refine pm_goto (tgt := 163) dM_report_145 rfl ?_
          refine pm_istore dM_report_163 (by decide) (q := 165) rfl ?_
          refine pm_aload_n dM_report_165 rfl (q := 166) rfl ?_
          refine pm_get fl_M_63 dM_report_166 rfl rfl (q := 169) rfl ?_
          refine pm_iload dM_report_169 rfl (q := 171) rfl ?_
          refine pm_ialdN dM_report_171 rfl hj6 (Nat.le_of_ble_eq_true rfl) (q := 172) rfl ?_
          refine pm_iload_n dM_report_172 rfl (q := 173) rfl ?_
          refine pm_icmp_ne (tgt := 187) dM_report_173 rfl (q := 176) rfl (fun h173 => ?_) (fun h173 => ?_)
          · refine pm_iload_n dM_report_187 rfl (q := 188) rfl ?_
            refine pm_istore_n dM_report_188 (by decide) (q := 189) rfl ?_
            refine pm_iincL dM_report_189 rfl (by decide) (y := nI (j + 1)) (by rw [nI_succ]; rfl) (q := 192) rfl ?_
            refine pm_goto (tgt := 43) dM_report_192 rfl ?_
            first
            | (have e8 : ¬ (ma 11 j = q ∧ ma 13 j < 0 ∧ ma 2 (ma 10 j).toNatClampNeg = q) := fM_m1 h173
               have e9 : fMr1 ma q (j + 1) = fMr1 ma q j := if_neg e8
               have y := fun o1 o2 o3 => ih (j + 1) o1 o2 o3 (by omega)
               rw [e9] at y
               exact y _ _ _)
            | (have e8 : ¬ (ma 11 j = q ∧ ma 13 j < 0 ∧ ma 2 (ma 10 j).toNatClampNeg = q) := fM_m2 h59
               have e9 : fMr1 ma q (j + 1) = fMr1 ma q j := if_neg e8
               have y := fun o1 o2 o3 => ih (j + 1) o1 o2 o3 (by omega)
               rw [e9] at y
               exact y _ _ _)
            | (have e8 : ¬ (ma 11 j = q ∧ ma 13 j < 0 ∧ ma 2 (ma 10 j).toNatClampNeg = q) := fM_m3 h137
               have e9 : fMr1 ma q (j + 1) = fMr1 ma q j := if_neg e8
               have y := fun o1 o2 o3 => ih (j + 1) o1 o2 o3 (by omega)
               rw [e9] at y
               exact y _ _ _)
            | (have e8 : ma 11 j = q ∧ ma 13 j < 0 ∧ ma 2 (ma 10 j).toNatClampNeg = q := fM_3 h173 h59 h137
               have e9 : fMr1 ma q (j + 1) = fMr1 ma q j + 1 := if_pos e8
               have y := fun o1 o2 o3 => ih (j + 1) o1 o2 o3 (by omega)
               rw [e9] at y
               exact y _ _ _)
          · refine pm_iload dM_report_176 rfl (q := 178) rfl ?_
            refine pm_if_eq (tgt := 187) dM_report_178 rfl (q := 181) rfl (fun _ => ?_) (fun h => absurd h (by decide))
            refine pm_iload_n dM_report_187 rfl (q := 188) rfl ?_
            refine pm_istore_n dM_report_188 (by decide) (q := 189) rfl ?_
            refine pm_iincL dM_report_189 rfl (by decide) (y := nI (j + 1)) (by rw [nI_succ]; rfl) (q := 192) rfl ?_
            refine pm_goto (tgt := 43) dM_report_192 rfl ?_
            first
            | (have e8 : ¬ (ma 11 j = q ∧ ma 13 j < 0 ∧ ma 2 (ma 10 j).toNatClampNeg = q) := fM_m1 h173
               have e9 : fMr1 ma q (j + 1) = fMr1 ma q j := if_neg e8
               have y := fun o1 o2 o3 => ih (j + 1) o1 o2 o3 (by omega)
               rw [e9] at y
               exact y _ _ _)
            | (have e8 : ¬ (ma 11 j = q ∧ ma 13 j < 0 ∧ ma 2 (ma 10 j).toNatClampNeg = q) := fM_m2 h59
               have e9 : fMr1 ma q (j + 1) = fMr1 ma q j := if_neg e8
               have y := fun o1 o2 o3 => ih (j + 1) o1 o2 o3 (by omega)
               rw [e9] at y
               exact y _ _ _)
            | (have e8 : ¬ (ma 11 j = q ∧ ma 13 j < 0 ∧ ma 2 (ma 10 j).toNatClampNeg = q) := fM_m3 h137
               have e9 : fMr1 ma q (j + 1) = fMr1 ma q j := if_neg e8
               have y := fun o1 o2 o3 => ih (j + 1) o1 o2 o3 (by omega)
               rw [e9] at y
               exact y _ _ _)
            | (have e8 : ma 11 j = q ∧ ma 13 j < 0 ∧ ma 2 (ma 10 j).toNatClampNeg = q := fM_3 h173 h59 h137
               have e9 : fMr1 ma q (j + 1) = fMr1 ma q j + 1 := if_pos e8
               have y := fun o1 o2 o3 => ih (j + 1) o1 o2 o3 (by omega)
               rw [e9] at y
               exact y _ _ _)
        · refine pm_iconst (x := 1) dM_report_85 (by decide) (q := 86) rfl ?_
          refine pm_goto (tgt := 90) dM_report_86 rfl ?_
          refine pm_istore dM_report_90 (by decide) (q := 92) rfl ?_
          refine pm_iload_n dM_report_92 rfl (q := 93) rfl ?_
          refine pm_if_ne (tgt := 114) dM_report_93 rfl (q := 96) rfl (fun _ => ?_) (fun h => absurd h (by decide))
          refine pm_iload_n dM_report_114 rfl (q := 115) rfl ?_
          refine pm_iconst (x := 1) dM_report_115 (by decide) (q := 116) rfl ?_
          refine pm_icmp_ne (tgt := 148) dM_report_116 rfl (q := 119) rfl (fun h => absurd h (by decide)) (fun _ => ?_)
          refine pm_iload dM_report_119 rfl (q := 121) rfl ?_
          refine pm_if_ne (tgt := 144) dM_report_121 rfl (q := 124) rfl (fun _ => ?_) (fun h => absurd h (by decide))
          refine pm_iconst (x := 0) dM_report_144 (by decide) (q := 145) rfl ?_
          refine pm_goto (tgt := 163) dM_report_145 rfl ?_
          refine pm_istore dM_report_163 (by decide) (q := 165) rfl ?_
          refine pm_aload_n dM_report_165 rfl (q := 166) rfl ?_
          refine pm_get fl_M_63 dM_report_166 rfl rfl (q := 169) rfl ?_
          refine pm_iload dM_report_169 rfl (q := 171) rfl ?_
          refine pm_ialdN dM_report_171 rfl hj6 (Nat.le_of_ble_eq_true rfl) (q := 172) rfl ?_
          refine pm_iload_n dM_report_172 rfl (q := 173) rfl ?_
          refine pm_icmp_ne (tgt := 187) dM_report_173 rfl (q := 176) rfl (fun h173 => ?_) (fun h173 => ?_)
          · refine pm_iload_n dM_report_187 rfl (q := 188) rfl ?_
            refine pm_istore_n dM_report_188 (by decide) (q := 189) rfl ?_
            refine pm_iincL dM_report_189 rfl (by decide) (y := nI (j + 1)) (by rw [nI_succ]; rfl) (q := 192) rfl ?_
            refine pm_goto (tgt := 43) dM_report_192 rfl ?_
            first
            | (have e8 : ¬ (ma 11 j = q ∧ ma 13 j < 0 ∧ ma 2 (ma 10 j).toNatClampNeg = q) := fM_m1 h173
               have e9 : fMr1 ma q (j + 1) = fMr1 ma q j := if_neg e8
               have y := fun o1 o2 o3 => ih (j + 1) o1 o2 o3 (by omega)
               rw [e9] at y
               exact y _ _ _)
            | (have e8 : ¬ (ma 11 j = q ∧ ma 13 j < 0 ∧ ma 2 (ma 10 j).toNatClampNeg = q) := fM_m2 h59
               have e9 : fMr1 ma q (j + 1) = fMr1 ma q j := if_neg e8
               have y := fun o1 o2 o3 => ih (j + 1) o1 o2 o3 (by omega)
               rw [e9] at y
               exact y _ _ _)
            | (have e8 : ¬ (ma 11 j = q ∧ ma 13 j < 0 ∧ ma 2 (ma 10 j).toNatClampNeg = q) := fM_m3 h137
               have e9 : fMr1 ma q (j + 1) = fMr1 ma q j := if_neg e8
               have y := fun o1 o2 o3 => ih (j + 1) o1 o2 o3 (by omega)
               rw [e9] at y
               exact y _ _ _)
            | (have e8 : ma 11 j = q ∧ ma 13 j < 0 ∧ ma 2 (ma 10 j).toNatClampNeg = q := fM_3 h173 h59 h137
               have e9 : fMr1 ma q (j + 1) = fMr1 ma q j + 1 := if_pos e8
               have y := fun o1 o2 o3 => ih (j + 1) o1 o2 o3 (by omega)
               rw [e9] at y
               exact y _ _ _)
          · refine pm_iload dM_report_176 rfl (q := 178) rfl ?_
            refine pm_if_eq (tgt := 187) dM_report_178 rfl (q := 181) rfl (fun _ => ?_) (fun h => absurd h (by decide))
            refine pm_iload_n dM_report_187 rfl (q := 188) rfl ?_
            refine pm_istore_n dM_report_188 (by decide) (q := 189) rfl ?_
            refine pm_iincL dM_report_189 rfl (by decide) (y := nI (j + 1)) (by rw [nI_succ]; rfl) (q := 192) rfl ?_
            refine pm_goto (tgt := 43) dM_report_192 rfl ?_
            first
            | (have e8 : ¬ (ma 11 j = q ∧ ma 13 j < 0 ∧ ma 2 (ma 10 j).toNatClampNeg = q) := fM_m1 h173
               have e9 : fMr1 ma q (j + 1) = fMr1 ma q j := if_neg e8
               have y := fun o1 o2 o3 => ih (j + 1) o1 o2 o3 (by omega)
               rw [e9] at y
               exact y _ _ _)
            | (have e8 : ¬ (ma 11 j = q ∧ ma 13 j < 0 ∧ ma 2 (ma 10 j).toNatClampNeg = q) := fM_m2 h59
               have e9 : fMr1 ma q (j + 1) = fMr1 ma q j := if_neg e8
               have y := fun o1 o2 o3 => ih (j + 1) o1 o2 o3 (by omega)
               rw [e9] at y
               exact y _ _ _)
            | (have e8 : ¬ (ma 11 j = q ∧ ma 13 j < 0 ∧ ma 2 (ma 10 j).toNatClampNeg = q) := fM_m3 h137
               have e9 : fMr1 ma q (j + 1) = fMr1 ma q j := if_neg e8
               have y := fun o1 o2 o3 => ih (j + 1) o1 o2 o3 (by omega)
               rw [e9] at y
               exact y _ _ _)
            | (have e8 : ma 11 j = q ∧ ma 13 j < 0 ∧ ma 2 (ma 10 j).toNatClampNeg = q := fM_3 h173 h59 h137
               have e9 : fMr1 ma q (j + 1) = fMr1 ma q j + 1 := if_pos e8
               have y := fun o1 o2 o3 => ih (j + 1) o1 o2 o3 (by omega)
               rw [e9] at y
               exact y _ _ _)
  refine pm_aload_n dM_report_0 rfl (q := 1) rfl ?_
  refine pm_iload_n dM_report_1 rfl (q := 2) rfl ?_
  refine pm_iconst (x := 0) dM_report_2 (by decide) (q := 3) rfl ?_
  refine pm_aload_n dM_report_3 rfl (q := 4) rfl ?_
  refine pm_get fl_M_16 dM_report_4 rfl rfl (q := 7) rfl ?_
  refine pm_iconst (x := 1) dM_report_7 (by decide) (q := 8) rfl ?_
  refine pm_isub dM_report_8 (q := 9) rfl ?_
  refine pm_cS3i hK (kM_in hl 0 _ _ _ _) mo_M_in st_M_in lk_M_92 dM_report_9 (by omega) (Nat.le_of_ble_eq_true rfl) (Nat.zero_le _) (Nat.zero_le _) (q := 12) rfl ?_
  refine pm_if_eq (tgt := 24) dM_report_12 rfl (q := 15) rfl (fun z => absurd z k0) (fun _ => ?_)
  refine pm_iload_n dM_report_15 rfl (q := 16) rfl ?_
  refine pm_iconst (x := 0) dM_report_16 (by decide) (q := 17) rfl ?_
  refine pm_iconst (x := 2) dM_report_17 (by decide) (q := 18) rfl ?_
  refine pm_cS3i hK (kM_in hl 0 _ _ _ _) mo_M_in st_M_in lk_M_92 dM_report_18 (by omega) (Nat.le_of_ble_eq_true rfl) (Nat.zero_le _) (Nat.zero_le _) (q := 21) rfl ?_
  refine pm_if_ne (tgt := 28) dM_report_21 rfl (q := 24) rfl (fun _ => ?_) (fun z => absurd z (by decide))
  refine pm_iconst (x := 0) dM_report_28 (by decide) (q := 29) rfl ?_
  refine pm_iconst (x := 0) dM_report_29 (by decide) (q := 30) rfl ?_
  refine pm_cV2i hK (kM_refuse_0 hl 0 _ _ rfl rfl) mo_M_refuse im_M_refuse se_M_refuse lk_M_96 dM_report_30 (by omega) (Nat.le_of_ble_eq_true rfl) (Nat.zero_le _) (Nat.zero_le _) rfl rfl rfl (q := 33) rfl ?_
  refine pm_if_eq (tgt := 38) dM_report_33 rfl (q := 36) rfl (fun _ => ?_) (fun z => absurd rfl z)
  refine pm_iconst (x := 0) dM_report_38 (by decide) (q := 39) rfl ?_
  refine pm_istore_n dM_report_39 (by decide) (q := 40) rfl ?_
  refine pm_iconst (x := 0) dM_report_40 (by decide) (q := 41) rfl ?_
  refine pm_istore dM_report_41 (by decide) (q := 43) rfl ?_
  exact hL N 0 _ _ _ (by omega)
def fMr2 (ma : Nat → Nat → Int32) (q : Int32) : Nat → Int32
  | 0 => 0
  | j + 1 => if ma 11 j = q ∧ ¬ ma 13 j < 0 ∧ ¬ ma 1 (ma 10 j).toNatClampNeg = q then fMr2 ma q j + 1 else fMr2 ma q j
set_option maxHeartbeats 8000000 in
theorem kM_report_2 {l : Launch} (hl : l.stackTraces = false) (d : Nat) (hd : 1 ≤ d) {pd : Int32} {si : Nat → Int32} {sa : Nat → Nat → Int32} {hv : Nat → Int32} {ha : Nat → Nat → Nat → Int32} {sl : Int32} {sc : Nat → Nat → Int32} {pl : Int32} {pa : Nat → Nat → Int32} {mi : Nat → Int32} {ma : Nat → Nat → Int32} {tl : pm_H} (q : Int32) {N : Nat} (hN : mi 19 = nI N) (hN6 : N ≤ 60) (hbx : ∀ j, j < N → vp_in (ma 10 j) 5) (k0 : ¬ fw q 0 (mi 3 - 1) = 0) : pm_Sem l d mM_report [.ref 31, .int q, .int 2] (cH pd si sa hv ha sl sc pl pa (mH (mi) (ma) tl)) (some (.int (fMr2 ma q N))) (cH pd si sa hv ha sl sc pl pa (mH (up1 mi 0 0) (ma) tl)) := by
  refine pm_sem hl mo_M_report ⟨_, rfl, rfl⟩ rfl rfl (Nat.le_of_ble_eq_true rfl) (fun K G hK hret => ?_)
  have hL : ∀ (m j : Nat) (o1 o2 o3 : Option Value), m + j = N → pm_Go mM_report K G 43 [some (.ref 31), some (.int q), some (.int 2), some (.int (fMr2 ma q j)), some (.int (nI j)), o1, o2, o3] [] (cH pd si sa hv ha sl sc pl pa (mH (up1 mi 0 0) (ma) tl)) 0 0 := by
    intro m
    induction m with
    | zero =>
      intro j o1 o2 o3 hj
      have hj : j = N := by omega
      subst hj
      refine pm_iload dM_report_43 rfl (q := 45) rfl ?_
      refine pm_aload_n dM_report_45 rfl (q := 46) rfl ?_
      refine pm_get fl_M_89 dM_report_46 rfl rfl (q := 49) rfl ?_
      refine pm_icmp_ge (tgt := 195) dM_report_49 rfl (q := 52) rfl (fun _ => ?_) (fun z => absurd (by show mi 19 ≤ nI j; rw [hN]; exact nI_le (Nat.le_refl _) (by omega)) z)
      refine pm_iload_n dM_report_195 rfl (q := 196) rfl ?_
      exact pm_retI hret dM_report_196 rfl
    | succ m ih =>
      intro j o1 o2 o3 hj
      have hj6 : j < 60 := by omega
      have hb := hbx j (by omega)
      refine pm_iload dM_report_43 rfl (q := 45) rfl ?_
      refine pm_aload_n dM_report_45 rfl (q := 46) rfl ?_
      refine pm_get fl_M_89 dM_report_46 rfl rfl (q := 49) rfl ?_
      refine pm_icmp_ge (tgt := 195) dM_report_49 rfl (q := 52) rfl (fun z => absurd z (by show ¬ mi 19 ≤ nI j; rw [hN]; exact nI_ge (by omega) (by omega))) (fun _ => ?_)
      refine pm_aload_n dM_report_52 rfl (q := 53) rfl ?_
      refine pm_get fl_M_69 dM_report_53 rfl rfl (q := 56) rfl ?_
      refine pm_iload dM_report_56 rfl (q := 58) rfl ?_
      refine pm_ialdN dM_report_58 rfl hj6 (Nat.le_of_ble_eq_true rfl) (q := 59) rfl ?_
      refine pm_if_lt (tgt := 66) dM_report_59 rfl (q := 62) rfl (fun h59 => ?_) (fun h59 => ?_)
      · refine pm_iconst (x := 0) dM_report_66 (by decide) (q := 67) rfl ?_
        refine pm_istore dM_report_67 (by decide) (q := 69) rfl ?_
        refine pm_aload_n dM_report_69 rfl (q := 70) rfl ?_
        refine pm_get fl_M_32 dM_report_70 rfl rfl (q := 73) rfl ?_
        refine pm_aload_n dM_report_73 rfl (q := 74) rfl ?_
        refine pm_get fl_M_60 dM_report_74 rfl rfl (q := 77) rfl ?_
        refine pm_iload dM_report_77 rfl (q := 79) rfl ?_
        refine pm_ialdN dM_report_79 rfl hj6 (Nat.le_of_ble_eq_true rfl) (q := 80) rfl ?_
        refine pm_iald dM_report_80 rfl hb (q := 81) rfl ?_
        refine pm_iload_n dM_report_81 rfl (q := 82) rfl ?_
        refine pm_icmp_ne (tgt := 89) dM_report_82 rfl (q := 85) rfl (fun h82 => ?_) (fun h82 => ?_)
        · refine pm_iconst (x := 0) dM_report_89 (by decide) (q := 90) rfl ?_
          refine pm_istore dM_report_90 (by decide) (q := 92) rfl ?_
          refine pm_iload_n dM_report_92 rfl (q := 93) rfl ?_
          refine pm_if_ne (tgt := 114) dM_report_93 rfl (q := 96) rfl (fun _ => ?_) (fun h => absurd h (by decide))
          refine pm_iload_n dM_report_114 rfl (q := 115) rfl ?_
          refine pm_iconst (x := 1) dM_report_115 (by decide) (q := 116) rfl ?_
          refine pm_icmp_ne (tgt := 148) dM_report_116 rfl (q := 119) rfl (fun _ => ?_) (fun h => absurd h (by decide))
          refine pm_iload dM_report_148 rfl (q := 150) rfl ?_
          refine pm_if_eq (tgt := 162) dM_report_150 rfl (q := 153) rfl (fun _ => ?_) (fun h => absurd h (by decide))
          refine pm_iconst (x := 0) dM_report_162 (by decide) (q := 163) rfl ?_
          refine pm_istore dM_report_163 (by decide) (q := 165) rfl ?_
          refine pm_aload_n dM_report_165 rfl (q := 166) rfl ?_
          refine pm_get fl_M_63 dM_report_166 rfl rfl (q := 169) rfl ?_
          refine pm_iload dM_report_169 rfl (q := 171) rfl ?_
          refine pm_ialdN dM_report_171 rfl hj6 (Nat.le_of_ble_eq_true rfl) (q := 172) rfl ?_
          refine pm_iload_n dM_report_172 rfl (q := 173) rfl ?_
          refine pm_icmp_ne (tgt := 187) dM_report_173 rfl (q := 176) rfl (fun h173 => ?_) (fun h173 => ?_)
          · refine pm_iload_n dM_report_187 rfl (q := 188) rfl ?_
            refine pm_istore_n dM_report_188 (by decide) (q := 189) rfl ?_
            refine pm_iincL dM_report_189 rfl (by decide) (y := nI (j + 1)) (by rw [nI_succ]; rfl) (q := 192) rfl ?_
            refine pm_goto (tgt := 43) dM_report_192 rfl ?_
            first
            | (have e8 : ¬ (ma 11 j = q ∧ ¬ ma 13 j < 0 ∧ ¬ ma 1 (ma 10 j).toNatClampNeg = q) := fM_m1 h173
               have e9 : fMr2 ma q (j + 1) = fMr2 ma q j := if_neg e8
               have y := fun o1 o2 o3 => ih (j + 1) o1 o2 o3 (by omega)
               rw [e9] at y
               exact y _ _ _)
            | (have e8 : ¬ (ma 11 j = q ∧ ¬ ma 13 j < 0 ∧ ¬ ma 1 (ma 10 j).toNatClampNeg = q) := fM_m2 (fM_nn h59)
               have e9 : fMr2 ma q (j + 1) = fMr2 ma q j := if_neg e8
               have y := fun o1 o2 o3 => ih (j + 1) o1 o2 o3 (by omega)
               rw [e9] at y
               exact y _ _ _)
            | (have e8 : ¬ (ma 11 j = q ∧ ¬ ma 13 j < 0 ∧ ¬ ma 1 (ma 10 j).toNatClampNeg = q) := fM_m3 (fM_nn h82)
               have e9 : fMr2 ma q (j + 1) = fMr2 ma q j := if_neg e8
               have y := fun o1 o2 o3 => ih (j + 1) o1 o2 o3 (by omega)
               rw [e9] at y
               exact y _ _ _)
            | (have e8 : ma 11 j = q ∧ ¬ ma 13 j < 0 ∧ ¬ ma 1 (ma 10 j).toNatClampNeg = q := fM_3 h173 h59 h82
               have e9 : fMr2 ma q (j + 1) = fMr2 ma q j + 1 := if_pos e8
               have y := fun o1 o2 o3 => ih (j + 1) o1 o2 o3 (by omega)
               rw [e9] at y
               exact y _ _ _)
          · refine pm_iload dM_report_176 rfl (q := 178) rfl ?_
            refine pm_if_eq (tgt := 187) dM_report_178 rfl (q := 181) rfl (fun _ => ?_) (fun h => absurd h (by decide))
            refine pm_iload_n dM_report_187 rfl (q := 188) rfl ?_
            refine pm_istore_n dM_report_188 (by decide) (q := 189) rfl ?_
            refine pm_iincL dM_report_189 rfl (by decide) (y := nI (j + 1)) (by rw [nI_succ]; rfl) (q := 192) rfl ?_
            refine pm_goto (tgt := 43) dM_report_192 rfl ?_
            first
            | (have e8 : ¬ (ma 11 j = q ∧ ¬ ma 13 j < 0 ∧ ¬ ma 1 (ma 10 j).toNatClampNeg = q) := fM_m1 h173
               have e9 : fMr2 ma q (j + 1) = fMr2 ma q j := if_neg e8
               have y := fun o1 o2 o3 => ih (j + 1) o1 o2 o3 (by omega)
               rw [e9] at y
               exact y _ _ _)
            | (have e8 : ¬ (ma 11 j = q ∧ ¬ ma 13 j < 0 ∧ ¬ ma 1 (ma 10 j).toNatClampNeg = q) := fM_m2 (fM_nn h59)
               have e9 : fMr2 ma q (j + 1) = fMr2 ma q j := if_neg e8
               have y := fun o1 o2 o3 => ih (j + 1) o1 o2 o3 (by omega)
               rw [e9] at y
               exact y _ _ _)
            | (have e8 : ¬ (ma 11 j = q ∧ ¬ ma 13 j < 0 ∧ ¬ ma 1 (ma 10 j).toNatClampNeg = q) := fM_m3 (fM_nn h82)
               have e9 : fMr2 ma q (j + 1) = fMr2 ma q j := if_neg e8
               have y := fun o1 o2 o3 => ih (j + 1) o1 o2 o3 (by omega)
               rw [e9] at y
               exact y _ _ _)
            | (have e8 : ma 11 j = q ∧ ¬ ma 13 j < 0 ∧ ¬ ma 1 (ma 10 j).toNatClampNeg = q := fM_3 h173 h59 h82
               have e9 : fMr2 ma q (j + 1) = fMr2 ma q j + 1 := if_pos e8
               have y := fun o1 o2 o3 => ih (j + 1) o1 o2 o3 (by omega)
               rw [e9] at y
               exact y _ _ _)
        · refine pm_iconst (x := 1) dM_report_85 (by decide) (q := 86) rfl ?_
          refine pm_goto (tgt := 90) dM_report_86 rfl ?_
          refine pm_istore dM_report_90 (by decide) (q := 92) rfl ?_
          refine pm_iload_n dM_report_92 rfl (q := 93) rfl ?_
          refine pm_if_ne (tgt := 114) dM_report_93 rfl (q := 96) rfl (fun _ => ?_) (fun h => absurd h (by decide))
          refine pm_iload_n dM_report_114 rfl (q := 115) rfl ?_
          refine pm_iconst (x := 1) dM_report_115 (by decide) (q := 116) rfl ?_
          refine pm_icmp_ne (tgt := 148) dM_report_116 rfl (q := 119) rfl (fun _ => ?_) (fun h => absurd h (by decide))
          refine pm_iload dM_report_148 rfl (q := 150) rfl ?_
          refine pm_if_eq (tgt := 162) dM_report_150 rfl (q := 153) rfl (fun _ => ?_) (fun h => absurd h (by decide))
          refine pm_iconst (x := 0) dM_report_162 (by decide) (q := 163) rfl ?_
          refine pm_istore dM_report_163 (by decide) (q := 165) rfl ?_
          refine pm_aload_n dM_report_165 rfl (q := 166) rfl ?_
          refine pm_get fl_M_63 dM_report_166 rfl rfl (q := 169) rfl ?_
          refine pm_iload dM_report_169 rfl (q := 171) rfl ?_
          refine pm_ialdN dM_report_171 rfl hj6 (Nat.le_of_ble_eq_true rfl) (q := 172) rfl ?_
          refine pm_iload_n dM_report_172 rfl (q := 173) rfl ?_
          refine pm_icmp_ne (tgt := 187) dM_report_173 rfl (q := 176) rfl (fun h173 => ?_) (fun h173 => ?_)
          · refine pm_iload_n dM_report_187 rfl (q := 188) rfl ?_
            refine pm_istore_n dM_report_188 (by decide) (q := 189) rfl ?_
            refine pm_iincL dM_report_189 rfl (by decide) (y := nI (j + 1)) (by rw [nI_succ]; rfl) (q := 192) rfl ?_
            refine pm_goto (tgt := 43) dM_report_192 rfl ?_
            first
            | (have e8 : ¬ (ma 11 j = q ∧ ¬ ma 13 j < 0 ∧ ¬ ma 1 (ma 10 j).toNatClampNeg = q) := fM_m1 h173
               have e9 : fMr2 ma q (j + 1) = fMr2 ma q j := if_neg e8
               have y := fun o1 o2 o3 => ih (j + 1) o1 o2 o3 (by omega)
               rw [e9] at y
               exact y _ _ _)
            | (have e8 : ¬ (ma 11 j = q ∧ ¬ ma 13 j < 0 ∧ ¬ ma 1 (ma 10 j).toNatClampNeg = q) := fM_m2 (fM_nn h59)
               have e9 : fMr2 ma q (j + 1) = fMr2 ma q j := if_neg e8
               have y := fun o1 o2 o3 => ih (j + 1) o1 o2 o3 (by omega)
               rw [e9] at y
               exact y _ _ _)
            | (have e8 : ¬ (ma 11 j = q ∧ ¬ ma 13 j < 0 ∧ ¬ ma 1 (ma 10 j).toNatClampNeg = q) := fM_m3 (fM_nn h82)
               have e9 : fMr2 ma q (j + 1) = fMr2 ma q j := if_neg e8
               have y := fun o1 o2 o3 => ih (j + 1) o1 o2 o3 (by omega)
               rw [e9] at y
               exact y _ _ _)
            | (have e8 : ma 11 j = q ∧ ¬ ma 13 j < 0 ∧ ¬ ma 1 (ma 10 j).toNatClampNeg = q := fM_3 h173 h59 h82
               have e9 : fMr2 ma q (j + 1) = fMr2 ma q j + 1 := if_pos e8
               have y := fun o1 o2 o3 => ih (j + 1) o1 o2 o3 (by omega)
               rw [e9] at y
               exact y _ _ _)
          · refine pm_iload dM_report_176 rfl (q := 178) rfl ?_
            refine pm_if_eq (tgt := 187) dM_report_178 rfl (q := 181) rfl (fun _ => ?_) (fun h => absurd h (by decide))
            refine pm_iload_n dM_report_187 rfl (q := 188) rfl ?_
            refine pm_istore_n dM_report_188 (by decide) (q := 189) rfl ?_
            refine pm_iincL dM_report_189 rfl (by decide) (y := nI (j + 1)) (by rw [nI_succ]; rfl) (q := 192) rfl ?_
            refine pm_goto (tgt := 43) dM_report_192 rfl ?_
            first
            | (have e8 : ¬ (ma 11 j = q ∧ ¬ ma 13 j < 0 ∧ ¬ ma 1 (ma 10 j).toNatClampNeg = q) := fM_m1 h173
               have e9 : fMr2 ma q (j + 1) = fMr2 ma q j := if_neg e8
               have y := fun o1 o2 o3 => ih (j + 1) o1 o2 o3 (by omega)
               rw [e9] at y
               exact y _ _ _)
            | (have e8 : ¬ (ma 11 j = q ∧ ¬ ma 13 j < 0 ∧ ¬ ma 1 (ma 10 j).toNatClampNeg = q) := fM_m2 (fM_nn h59)
               have e9 : fMr2 ma q (j + 1) = fMr2 ma q j := if_neg e8
               have y := fun o1 o2 o3 => ih (j + 1) o1 o2 o3 (by omega)
               rw [e9] at y
               exact y _ _ _)
            | (have e8 : ¬ (ma 11 j = q ∧ ¬ ma 13 j < 0 ∧ ¬ ma 1 (ma 10 j).toNatClampNeg = q) := fM_m3 (fM_nn h82)
               have e9 : fMr2 ma q (j + 1) = fMr2 ma q j := if_neg e8
               have y := fun o1 o2 o3 => ih (j + 1) o1 o2 o3 (by omega)
               rw [e9] at y
               exact y _ _ _)
            | (have e8 : ma 11 j = q ∧ ¬ ma 13 j < 0 ∧ ¬ ma 1 (ma 10 j).toNatClampNeg = q := fM_3 h173 h59 h82
               have e9 : fMr2 ma q (j + 1) = fMr2 ma q j + 1 := if_pos e8
               have y := fun o1 o2 o3 => ih (j + 1) o1 o2 o3 (by omega)
               rw [e9] at y
               exact y _ _ _)
      · refine pm_iconst (x := 1) dM_report_62 (by decide) (q := 63) rfl ?_
        refine pm_goto (tgt := 67) dM_report_63 rfl ?_
        refine pm_istore dM_report_67 (by decide) (q := 69) rfl ?_
        refine pm_aload_n dM_report_69 rfl (q := 70) rfl ?_
        refine pm_get fl_M_32 dM_report_70 rfl rfl (q := 73) rfl ?_
        refine pm_aload_n dM_report_73 rfl (q := 74) rfl ?_
        refine pm_get fl_M_60 dM_report_74 rfl rfl (q := 77) rfl ?_
        refine pm_iload dM_report_77 rfl (q := 79) rfl ?_
        refine pm_ialdN dM_report_79 rfl hj6 (Nat.le_of_ble_eq_true rfl) (q := 80) rfl ?_
        refine pm_iald dM_report_80 rfl hb (q := 81) rfl ?_
        refine pm_iload_n dM_report_81 rfl (q := 82) rfl ?_
        refine pm_icmp_ne (tgt := 89) dM_report_82 rfl (q := 85) rfl (fun h82 => ?_) (fun h82 => ?_)
        · refine pm_iconst (x := 0) dM_report_89 (by decide) (q := 90) rfl ?_
          refine pm_istore dM_report_90 (by decide) (q := 92) rfl ?_
          refine pm_iload_n dM_report_92 rfl (q := 93) rfl ?_
          refine pm_if_ne (tgt := 114) dM_report_93 rfl (q := 96) rfl (fun _ => ?_) (fun h => absurd h (by decide))
          refine pm_iload_n dM_report_114 rfl (q := 115) rfl ?_
          refine pm_iconst (x := 1) dM_report_115 (by decide) (q := 116) rfl ?_
          refine pm_icmp_ne (tgt := 148) dM_report_116 rfl (q := 119) rfl (fun _ => ?_) (fun h => absurd h (by decide))
          refine pm_iload dM_report_148 rfl (q := 150) rfl ?_
          refine pm_if_eq (tgt := 162) dM_report_150 rfl (q := 153) rfl (fun h => absurd h (by decide)) (fun _ => ?_)
          refine pm_iload dM_report_153 rfl (q := 155) rfl ?_
          refine pm_if_ne (tgt := 162) dM_report_155 rfl (q := 158) rfl (fun h => absurd h (by decide)) (fun _ => ?_)
          refine pm_iconst (x := 1) dM_report_158 (by decide) (q := 159) rfl ?_
          refine pm_goto (tgt := 163) dM_report_159 rfl ?_
          refine pm_istore dM_report_163 (by decide) (q := 165) rfl ?_
          refine pm_aload_n dM_report_165 rfl (q := 166) rfl ?_
          refine pm_get fl_M_63 dM_report_166 rfl rfl (q := 169) rfl ?_
          refine pm_iload dM_report_169 rfl (q := 171) rfl ?_
          refine pm_ialdN dM_report_171 rfl hj6 (Nat.le_of_ble_eq_true rfl) (q := 172) rfl ?_
          refine pm_iload_n dM_report_172 rfl (q := 173) rfl ?_
          refine pm_icmp_ne (tgt := 187) dM_report_173 rfl (q := 176) rfl (fun h173 => ?_) (fun h173 => ?_)
          · refine pm_iload_n dM_report_187 rfl (q := 188) rfl ?_
            refine pm_istore_n dM_report_188 (by decide) (q := 189) rfl ?_
            refine pm_iincL dM_report_189 rfl (by decide) (y := nI (j + 1)) (by rw [nI_succ]; rfl) (q := 192) rfl ?_
            refine pm_goto (tgt := 43) dM_report_192 rfl ?_
            first
            | (have e8 : ¬ (ma 11 j = q ∧ ¬ ma 13 j < 0 ∧ ¬ ma 1 (ma 10 j).toNatClampNeg = q) := fM_m1 h173
               have e9 : fMr2 ma q (j + 1) = fMr2 ma q j := if_neg e8
               have y := fun o1 o2 o3 => ih (j + 1) o1 o2 o3 (by omega)
               rw [e9] at y
               exact y _ _ _)
            | (have e8 : ¬ (ma 11 j = q ∧ ¬ ma 13 j < 0 ∧ ¬ ma 1 (ma 10 j).toNatClampNeg = q) := fM_m2 (fM_nn h59)
               have e9 : fMr2 ma q (j + 1) = fMr2 ma q j := if_neg e8
               have y := fun o1 o2 o3 => ih (j + 1) o1 o2 o3 (by omega)
               rw [e9] at y
               exact y _ _ _)
            | (have e8 : ¬ (ma 11 j = q ∧ ¬ ma 13 j < 0 ∧ ¬ ma 1 (ma 10 j).toNatClampNeg = q) := fM_m3 (fM_nn h82)
               have e9 : fMr2 ma q (j + 1) = fMr2 ma q j := if_neg e8
               have y := fun o1 o2 o3 => ih (j + 1) o1 o2 o3 (by omega)
               rw [e9] at y
               exact y _ _ _)
            | (have e8 : ma 11 j = q ∧ ¬ ma 13 j < 0 ∧ ¬ ma 1 (ma 10 j).toNatClampNeg = q := fM_3 h173 h59 h82
               have e9 : fMr2 ma q (j + 1) = fMr2 ma q j + 1 := if_pos e8
               have y := fun o1 o2 o3 => ih (j + 1) o1 o2 o3 (by omega)
               rw [e9] at y
               exact y _ _ _)
          · refine pm_iload dM_report_176 rfl (q := 178) rfl ?_
            refine pm_if_eq (tgt := 187) dM_report_178 rfl (q := 181) rfl (fun h => absurd h (by decide)) (fun _ => ?_)
            refine pm_iload_n dM_report_181 rfl (q := 182) rfl ?_
            refine pm_iconst (x := 1) dM_report_182 (by decide) (q := 183) rfl ?_
            refine pm_iadd dM_report_183 (q := 184) rfl ?_
            refine pm_goto (tgt := 188) dM_report_184 rfl ?_
            refine pm_istore_n dM_report_188 (by decide) (q := 189) rfl ?_
            refine pm_iincL dM_report_189 rfl (by decide) (y := nI (j + 1)) (by rw [nI_succ]; rfl) (q := 192) rfl ?_
            refine pm_goto (tgt := 43) dM_report_192 rfl ?_
            first
            | (have e8 : ¬ (ma 11 j = q ∧ ¬ ma 13 j < 0 ∧ ¬ ma 1 (ma 10 j).toNatClampNeg = q) := fM_m1 h173
               have e9 : fMr2 ma q (j + 1) = fMr2 ma q j := if_neg e8
               have y := fun o1 o2 o3 => ih (j + 1) o1 o2 o3 (by omega)
               rw [e9] at y
               exact y _ _ _)
            | (have e8 : ¬ (ma 11 j = q ∧ ¬ ma 13 j < 0 ∧ ¬ ma 1 (ma 10 j).toNatClampNeg = q) := fM_m2 (fM_nn h59)
               have e9 : fMr2 ma q (j + 1) = fMr2 ma q j := if_neg e8
               have y := fun o1 o2 o3 => ih (j + 1) o1 o2 o3 (by omega)
               rw [e9] at y
               exact y _ _ _)
            | (have e8 : ¬ (ma 11 j = q ∧ ¬ ma 13 j < 0 ∧ ¬ ma 1 (ma 10 j).toNatClampNeg = q) := fM_m3 (fM_nn h82)
               have e9 : fMr2 ma q (j + 1) = fMr2 ma q j := if_neg e8
               have y := fun o1 o2 o3 => ih (j + 1) o1 o2 o3 (by omega)
               rw [e9] at y
               exact y _ _ _)
            | (have e8 : ma 11 j = q ∧ ¬ ma 13 j < 0 ∧ ¬ ma 1 (ma 10 j).toNatClampNeg = q := fM_3 h173 h59 h82
               have e9 : fMr2 ma q (j + 1) = fMr2 ma q j + 1 := if_pos e8
               have y := fun o1 o2 o3 => ih (j + 1) o1 o2 o3 (by omega)
               rw [e9] at y
               exact y _ _ _)
        · refine pm_iconst (x := 1) dM_report_85 (by decide) (q := 86) rfl ?_
          refine pm_goto (tgt := 90) dM_report_86 rfl ?_
          refine pm_istore dM_report_90 (by decide) (q := 92) rfl ?_
          refine pm_iload_n dM_report_92 rfl (q := 93) rfl ?_
          refine pm_if_ne (tgt := 114) dM_report_93 rfl (q := 96) rfl (fun _ => ?_) (fun h => absurd h (by decide))
          refine pm_iload_n dM_report_114 rfl (q := 115) rfl ?_
          refine pm_iconst (x := 1) dM_report_115 (by decide) (q := 116) rfl ?_
          refine pm_icmp_ne (tgt := 148) dM_report_116 rfl (q := 119) rfl (fun _ => ?_) (fun h => absurd h (by decide))
          refine pm_iload dM_report_148 rfl (q := 150) rfl ?_
          refine pm_if_eq (tgt := 162) dM_report_150 rfl (q := 153) rfl (fun h => absurd h (by decide)) (fun _ => ?_)
          refine pm_iload dM_report_153 rfl (q := 155) rfl ?_
          refine pm_if_ne (tgt := 162) dM_report_155 rfl (q := 158) rfl (fun _ => ?_) (fun h => absurd h (by decide))
          refine pm_iconst (x := 0) dM_report_162 (by decide) (q := 163) rfl ?_
          refine pm_istore dM_report_163 (by decide) (q := 165) rfl ?_
          refine pm_aload_n dM_report_165 rfl (q := 166) rfl ?_
          refine pm_get fl_M_63 dM_report_166 rfl rfl (q := 169) rfl ?_
          refine pm_iload dM_report_169 rfl (q := 171) rfl ?_
          refine pm_ialdN dM_report_171 rfl hj6 (Nat.le_of_ble_eq_true rfl) (q := 172) rfl ?_
          refine pm_iload_n dM_report_172 rfl (q := 173) rfl ?_
          refine pm_icmp_ne (tgt := 187) dM_report_173 rfl (q := 176) rfl (fun h173 => ?_) (fun h173 => ?_)
          · refine pm_iload_n dM_report_187 rfl (q := 188) rfl ?_
            refine pm_istore_n dM_report_188 (by decide) (q := 189) rfl ?_
            refine pm_iincL dM_report_189 rfl (by decide) (y := nI (j + 1)) (by rw [nI_succ]; rfl) (q := 192) rfl ?_
            refine pm_goto (tgt := 43) dM_report_192 rfl ?_
            first
            | (have e8 : ¬ (ma 11 j = q ∧ ¬ ma 13 j < 0 ∧ ¬ ma 1 (ma 10 j).toNatClampNeg = q) := fM_m1 h173
               have e9 : fMr2 ma q (j + 1) = fMr2 ma q j := if_neg e8
               have y := fun o1 o2 o3 => ih (j + 1) o1 o2 o3 (by omega)
               rw [e9] at y
               exact y _ _ _)
            | (have e8 : ¬ (ma 11 j = q ∧ ¬ ma 13 j < 0 ∧ ¬ ma 1 (ma 10 j).toNatClampNeg = q) := fM_m2 (fM_nn h59)
               have e9 : fMr2 ma q (j + 1) = fMr2 ma q j := if_neg e8
               have y := fun o1 o2 o3 => ih (j + 1) o1 o2 o3 (by omega)
               rw [e9] at y
               exact y _ _ _)
            | (have e8 : ¬ (ma 11 j = q ∧ ¬ ma 13 j < 0 ∧ ¬ ma 1 (ma 10 j).toNatClampNeg = q) := fM_m3 (fM_nn h82)
               have e9 : fMr2 ma q (j + 1) = fMr2 ma q j := if_neg e8
               have y := fun o1 o2 o3 => ih (j + 1) o1 o2 o3 (by omega)
               rw [e9] at y
               exact y _ _ _)
            | (have e8 : ma 11 j = q ∧ ¬ ma 13 j < 0 ∧ ¬ ma 1 (ma 10 j).toNatClampNeg = q := fM_3 h173 h59 h82
               have e9 : fMr2 ma q (j + 1) = fMr2 ma q j + 1 := if_pos e8
               have y := fun o1 o2 o3 => ih (j + 1) o1 o2 o3 (by omega)
               rw [e9] at y
               exact y _ _ _)
          · refine pm_iload dM_report_176 rfl (q := 178) rfl ?_
            refine pm_if_eq (tgt := 187) dM_report_178 rfl (q := 181) rfl (fun _ => ?_) (fun h => absurd h (by decide))
            refine pm_iload_n dM_report_187 rfl (q := 188) rfl ?_
            refine pm_istore_n dM_report_188 (by decide) (q := 189) rfl ?_
            refine pm_iincL dM_report_189 rfl (by decide) (y := nI (j + 1)) (by rw [nI_succ]; rfl) (q := 192) rfl ?_
            refine pm_goto (tgt := 43) dM_report_192 rfl ?_
            first
            | (have e8 : ¬ (ma 11 j = q ∧ ¬ ma 13 j < 0 ∧ ¬ ma 1 (ma 10 j).toNatClampNeg = q) := fM_m1 h173
               have e9 : fMr2 ma q (j + 1) = fMr2 ma q j := if_neg e8
               have y := fun o1 o2 o3 => ih (j + 1) o1 o2 o3 (by omega)
               rw [e9] at y
               exact y _ _ _)
            | (have e8 : ¬ (ma 11 j = q ∧ ¬ ma 13 j < 0 ∧ ¬ ma 1 (ma 10 j).toNatClampNeg = q) := fM_m2 (fM_nn h59)
               have e9 : fMr2 ma q (j + 1) = fMr2 ma q j := if_neg e8
               have y := fun o1 o2 o3 => ih (j + 1) o1 o2 o3 (by omega)
               rw [e9] at y
               exact y _ _ _)
            | (have e8 : ¬ (ma 11 j = q ∧ ¬ ma 13 j < 0 ∧ ¬ ma 1 (ma 10 j).toNatClampNeg = q) := fM_m3 (fM_nn h82)
               have e9 : fMr2 ma q (j + 1) = fMr2 ma q j := if_neg e8
               have y := fun o1 o2 o3 => ih (j + 1) o1 o2 o3 (by omega)
               rw [e9] at y
               exact y _ _ _)
            | (have e8 : ma 11 j = q ∧ ¬ ma 13 j < 0 ∧ ¬ ma 1 (ma 10 j).toNatClampNeg = q := fM_3 h173 h59 h82
               have e9 : fMr2 ma q (j + 1) = fMr2 ma q j + 1 := if_pos e8
               have y := fun o1 o2 o3 => ih (j + 1) o1 o2 o3 (by omega)
               rw [e9] at y
               exact y _ _ _)
  refine pm_aload_n dM_report_0 rfl (q := 1) rfl ?_
  refine pm_iload_n dM_report_1 rfl (q := 2) rfl ?_
  refine pm_iconst (x := 0) dM_report_2 (by decide) (q := 3) rfl ?_
  refine pm_aload_n dM_report_3 rfl (q := 4) rfl ?_
  refine pm_get fl_M_16 dM_report_4 rfl rfl (q := 7) rfl ?_
  refine pm_iconst (x := 1) dM_report_7 (by decide) (q := 8) rfl ?_
  refine pm_isub dM_report_8 (q := 9) rfl ?_
  refine pm_cS3i hK (kM_in hl 0 _ _ _ _) mo_M_in st_M_in lk_M_92 dM_report_9 (by omega) (Nat.le_of_ble_eq_true rfl) (Nat.zero_le _) (Nat.zero_le _) (q := 12) rfl ?_
  refine pm_if_eq (tgt := 24) dM_report_12 rfl (q := 15) rfl (fun z => absurd z k0) (fun _ => ?_)
  refine pm_iload_n dM_report_15 rfl (q := 16) rfl ?_
  refine pm_iconst (x := 0) dM_report_16 (by decide) (q := 17) rfl ?_
  refine pm_iconst (x := 2) dM_report_17 (by decide) (q := 18) rfl ?_
  refine pm_cS3i hK (kM_in hl 0 _ _ _ _) mo_M_in st_M_in lk_M_92 dM_report_18 (by omega) (Nat.le_of_ble_eq_true rfl) (Nat.zero_le _) (Nat.zero_le _) (q := 21) rfl ?_
  refine pm_if_ne (tgt := 28) dM_report_21 rfl (q := 24) rfl (fun _ => ?_) (fun z => absurd z (by decide))
  refine pm_iconst (x := 0) dM_report_28 (by decide) (q := 29) rfl ?_
  refine pm_iconst (x := 0) dM_report_29 (by decide) (q := 30) rfl ?_
  refine pm_cV2i hK (kM_refuse_0 hl 0 _ _ rfl rfl) mo_M_refuse im_M_refuse se_M_refuse lk_M_96 dM_report_30 (by omega) (Nat.le_of_ble_eq_true rfl) (Nat.zero_le _) (Nat.zero_le _) rfl rfl rfl (q := 33) rfl ?_
  refine pm_if_eq (tgt := 38) dM_report_33 rfl (q := 36) rfl (fun _ => ?_) (fun z => absurd rfl z)
  refine pm_iconst (x := 0) dM_report_38 (by decide) (q := 39) rfl ?_
  refine pm_istore_n dM_report_39 (by decide) (q := 40) rfl ?_
  refine pm_iconst (x := 0) dM_report_40 (by decide) (q := 41) rfl ?_
  refine pm_istore dM_report_41 (by decide) (q := 43) rfl ?_
  exact hL N 0 _ _ _ (by omega)
set_option maxHeartbeats 4000000 in
theorem kM_report_no {l : Launch} (hl : l.stackTraces = false) (d : Nat) (hd : 1 ≤ d) {pd : Int32} {si : Nat → Int32} {sa : Nat → Nat → Int32} {hv : Nat → Int32} {ha : Nat → Nat → Nat → Int32} {sl : Int32} {sc : Nat → Nat → Int32} {pl : Int32} {pa : Nat → Nat → Int32} {mi : Nat → Int32} {ma : Nat → Nat → Int32} {tl : pm_H} (q w : Int32) (k0 : fw q 0 (mi 3 - 1) = 0 ∨ fw w 0 2 = 0) : pm_Sem l d mM_report [.ref 31, .int q, .int w] (cH pd si sa hv ha sl sc pl pa (mH (mi) (ma) tl)) (some (.int 0)) (cH pd si sa hv ha sl sc pl pa (mH (up1 mi 0 1) (ma) tl)) := by
  refine pm_sem hl mo_M_report ⟨_, rfl, rfl⟩ rfl rfl (Nat.le_of_ble_eq_true rfl) (fun K G hK hret => ?_)
  refine pm_aload_n dM_report_0 rfl (q := 1) rfl ?_
  refine pm_iload_n dM_report_1 rfl (q := 2) rfl ?_
  refine pm_iconst (x := 0) dM_report_2 (by decide) (q := 3) rfl ?_
  refine pm_aload_n dM_report_3 rfl (q := 4) rfl ?_
  refine pm_get fl_M_16 dM_report_4 rfl rfl (q := 7) rfl ?_
  refine pm_iconst (x := 1) dM_report_7 (by decide) (q := 8) rfl ?_
  refine pm_isub dM_report_8 (q := 9) rfl ?_
  refine pm_cS3i hK (kM_in hl 0 _ _ _ _) mo_M_in st_M_in lk_M_92 dM_report_9 (by omega) (Nat.le_of_ble_eq_true rfl) (Nat.zero_le _) (Nat.zero_le _) (q := 12) rfl ?_
  refine pm_if_eq (tgt := 24) dM_report_12 rfl (q := 15) rfl (fun h12 => ?_) (fun h12 => ?_)
  · refine pm_iconst (x := 1) dM_report_24 (by decide) (q := 25) rfl ?_
    refine pm_goto (tgt := 29) dM_report_25 rfl ?_
    refine pm_iconst (x := 0) dM_report_29 (by decide) (q := 30) rfl ?_
    refine pm_cV2i hK (kM_refuse_1 hl 0 _ _ (by decide)) mo_M_refuse im_M_refuse se_M_refuse lk_M_96 dM_report_30 (by omega) (Nat.le_of_ble_eq_true rfl) (Nat.zero_le _) (Nat.zero_le _) rfl rfl rfl (q := 33) rfl ?_
    refine pm_if_eq (tgt := 38) dM_report_33 rfl (q := 36) rfl (fun z => absurd z (by decide)) (fun _ => ?_)
    refine pm_iconst (x := 0) dM_report_36 (by decide) (q := 37) rfl ?_
    exact pm_retI hret dM_report_37 rfl
  · refine pm_iload_n dM_report_15 rfl (q := 16) rfl ?_
    refine pm_iconst (x := 0) dM_report_16 (by decide) (q := 17) rfl ?_
    refine pm_iconst (x := 2) dM_report_17 (by decide) (q := 18) rfl ?_
    refine pm_cS3i hK (kM_in hl 0 _ _ _ _) mo_M_in st_M_in lk_M_92 dM_report_18 (by omega) (Nat.le_of_ble_eq_true rfl) (Nat.zero_le _) (Nat.zero_le _) (q := 21) rfl ?_
    refine pm_if_ne (tgt := 28) dM_report_21 rfl (q := 24) rfl (fun h21 => ?_) (fun h21 => ?_)
    · exact absurd k0 (fun z => z.elim h12 h21)
    · refine pm_iconst (x := 1) dM_report_24 (by decide) (q := 25) rfl ?_
      refine pm_goto (tgt := 29) dM_report_25 rfl ?_
      refine pm_iconst (x := 0) dM_report_29 (by decide) (q := 30) rfl ?_
      refine pm_cV2i hK (kM_refuse_1 hl 0 _ _ (by decide)) mo_M_refuse im_M_refuse se_M_refuse lk_M_96 dM_report_30 (by omega) (Nat.le_of_ble_eq_true rfl) (Nat.zero_le _) (Nat.zero_le _) rfl rfl rfl (q := 33) rfl ?_
      refine pm_if_eq (tgt := 38) dM_report_33 rfl (q := 36) rfl (fun z => absurd z (by decide)) (fun _ => ?_)
      refine pm_iconst (x := 0) dM_report_36 (by decide) (q := 37) rfl ?_
      exact pm_retI hret dM_report_37 rfl
