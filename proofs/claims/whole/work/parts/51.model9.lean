/-! the model: verify -/
def badM (mi : Nat → Int32) (ma : Nat → Nat → Int32) (S q : Nat) (L : pL) : Bool := decide (fM_so mi (sM L) ma S S = 0 ∨ fM_all mi (sM L) ma (nI q) 5 = 0)
theorem sM_all {L : pL} {T : Nat} (hL : pOk L T) (hT : T ≤ 3) : (L 0 = [] ∧ L 1 = [] ∧ L 2 = []) ↔ ∀ k, k < 9 → sM L k < 0 := by
  constructor
  · rintro ⟨h0, h1, h2⟩ k hk
    have e : k = 3 * (k / 3) + k % 3 := by omega
    rw [e, sM_neg hL (by omega)]
    have u : k / 3 = 0 ∨ k / 3 = 1 ∨ k / 3 = 2 := by omega
    rcases u with z | z | z
    · rw [z, h0]; exact Nat.zero_le _
    · rw [z, h1]; exact Nat.zero_le _
    · rw [z, h2]; exact Nat.zero_le _
  · intro h
    have g : ∀ s, s < 3 → L s = [] := fun s hs => by
      have := (sM_neg (s := s) (j := 0) hL (by omega)).mp (h (3 * s + 0) (by omega))
      exact List.length_eq_zero_iff.mp (by omega)
    exact ⟨g 0 (by omega), g 1 (by omega), g 2 (by omega)⟩
set_option maxHeartbeats 8000000 in
theorem kM_verify_ok {l : Launch} (hl : l.stackTraces = false) (d : Nat) (hd : 3 ≤ d) {pd : Int32} {si : Nat → Int32} {sa : Nat → Nat → Int32} {hv : Nat → Int32} {ha : Nat → Nat → Nat → Int32} {sl : Int32} {sc : Nat → Nat → Int32} {pl : Int32} {pa : Nat → Nat → Int32} {mi : Nat → Int32} {ma : Nat → Nat → Int32} {tl : pm_H} {S T P : Nat} (hS : mi 1 = nI S) (hS1 : 1 ≤ S) (hS3 : S ≤ 3) (hT : mi 2 = nI T) (hT3 : T ≤ 3) (hP : mi 3 = nI P) (hP1 : 1 ≤ P) (hP4 : P ≤ 4) {rs : pR} {N : Nat} (hsc : scM mi ma rs N) (k0 : ¬ mi 18 = 0) : pm_Sem l d mM_verify [.ref 31] (cH pd si sa hv ha sl sc pl pa (mH (mi) (ma) tl)) (some (.int (nI (vOut (aStep S T (mi 4) (ma 3) rs) (fun i => (rs i).2.1) (badM mi ma S) N P 0 0 pE).1))) (cH pd si sa hv ha sl sc pl pa (mH (up1 mi 0 0) (up1 ma 15 (sM (vOut (aStep S T (mi 4) (ma 3) rs) (fun i => (rs i).2.1) (badM mi ma S) N P 0 0 pE).2)) tl)) := by
  refine pm_sem hl mo_M_verify ⟨_, rfl, rfl⟩ rfl rfl (Nat.le_of_ble_eq_true rfl) (fun K G hK hret => ?_)
  obtain ⟨hN, hN6, hrs⟩ := id hsc
  have hr5 : ∀ i, i < N → (rs i).1 < 5 ∧ ∀ s, (rs i).2.2.1 = some s → s < 3 := fun i hi => ⟨(hrs i hi).1.2.1, rM_s (hrs i hi).1⟩
  have hZ : ∀ (L : pL) (i : Nat), pOk L T → (vOut (aStep S T (mi 4) (ma 3) rs) (fun i => (rs i).2.1) (badM mi ma S) N P 0 0 pE) = (if L 0 = [] ∧ L 1 = [] ∧ L 2 = [] then 0 else N + 1, L) → ∀ m k, m + k = 9 → (∀ k9, k9 < k → sM L k9 < 0) → pm_Go mM_verify K G 133 [some (.ref 31), some (.int (nI i)), some (.int (nI k))] [] (cH pd si sa hv ha sl sc pl pa (mH (up1 mi 0 0) (up1 ma 15 (sM L)) tl)) 0 0 := by
    intro L i hok hr m
    induction m with
    | zero =>
      intro k hk hall
      have hk : k = 9 := by omega
      subst hk
      rw [if_pos ((sM_all hok hT3).mpr hall)] at hr
      rw [hr] at hret
      refine pm_iload_n dM_verify_133 rfl (q := 134) rfl ?_
      refine pm_bipush (x := 9) dM_verify_134 (by decide) (q := 136) rfl ?_
      refine pm_icmp_ge (tgt := 161) dM_verify_136 rfl (q := 139) rfl (fun _ => ?_) (fun z => absurd (by decide) z)
      refine pm_iconst (x := 0) dM_verify_161 (by decide) (q := 162) rfl ?_
      exact pm_retI hret dM_verify_162 rfl
    | succ m ih =>
      intro k hk hall
      have hk9 : k < 9 := by omega
      refine pm_iload_n dM_verify_133 rfl (q := 134) rfl ?_
      refine pm_bipush (x := 9) dM_verify_134 (by decide) (q := 136) rfl ?_
      refine pm_icmp_ge (tgt := 161) dM_verify_136 rfl (q := 139) rfl (fun z => absurd z (show ¬ (9 : Int32) ≤ nI k from nI_ge (b := 9) hk9 (by decide))) (fun _ => ?_)
      refine pm_aload_n dM_verify_139 rfl (q := 140) rfl ?_
      refine pm_get fl_M_75 dM_verify_140 rfl rfl (q := 143) rfl ?_
      refine pm_iload_n dM_verify_143 rfl (q := 144) rfl ?_
      refine pm_ialdN dM_verify_144 rfl (hk9) (Nat.le_of_ble_eq_true rfl) (q := 145) rfl ?_
      refine pm_if_lt (tgt := 155) dM_verify_145 rfl (q := 148) rfl (fun h145 => ?_) (fun h145 => ?_)
      · refine pm_iincL dM_verify_155 rfl (by decide) (y := nI (k + 1)) (by rw [nI_succ]; rfl) (q := 158) rfl ?_
        refine pm_goto (tgt := 133) dM_verify_158 rfl ?_
        refine ih (k + 1) (by omega) (fun k9 h9 => ?_)
        by_cases z : k9 = k
        · rw [z]; exact h145
        · exact hall k9 (by omega)
      · refine pm_aload_n dM_verify_148 rfl (q := 149) rfl ?_
        refine pm_get fl_M_89 dM_verify_149 rfl rfl (q := 152) rfl ?_
        refine pm_iconst (x := 1) dM_verify_152 (by decide) (q := 153) rfl ?_
        refine pm_iadd dM_verify_153 (q := 154) rfl ?_
        rw [if_neg (fun z => h145 ((sM_all hok hT3).mp z k hk9))] at hr; rw [hr] at hret; exact pm_retI hret dM_verify_154 (by show mi 19 + 1 = nI (N + 1); rw [hN, nI_succ])
  have hI : ∀ (q : Nat), q < 4 → ∀ (m i : Nat) (L : pL) (r : (Nat × pL) × Bool), m + i = N → pOk L T → vIn (aStep S T (mi 4) (ma 3) rs) (fun i => (rs i).2.1) q m i L = r → (r.2 = false → (vOut (aStep S T (mi 4) (ma 3) rs) (fun i => (rs i).2.1) (badM mi ma S) N P 0 0 pE) = (r.1.1 + 1, r.1.2)) → (r.2 = true → pm_Go mM_verify K G 81 [some (.ref 31), some (.int (nI r.1.1)), some (.int (nI q))] [] (cH pd si sa hv ha sl sc pl pa (mH (up1 mi 0 0) (up1 ma 15 (sM r.1.2)) tl)) 0 0) → pm_Go mM_verify K G 41 [some (.ref 31), some (.int (nI i)), some (.int (nI q))] [] (cH pd si sa hv ha sl sc pl pa (mH (up1 mi 0 0) (up1 ma 15 (sM L)) tl)) 0 0 := by
    intro q hq m
    induction m with
    | zero =>
      intro i L r hi hok hr hf ht
      have hi : i = N := by omega
      rw [vIn] at hr
      subst hr
      refine pm_iload_n dM_verify_41 rfl (q := 42) rfl ?_
      refine pm_aload_n dM_verify_42 rfl (q := 43) rfl ?_
      refine pm_get fl_M_89 dM_verify_43 rfl rfl (q := 46) rfl ?_
      refine pm_icmp_ge (tgt := 81) dM_verify_46 rfl (q := 49) rfl (fun _ => ?_) (fun z => absurd (by show mi 19 ≤ nI i; rw [hN, hi]; exact nI_le (Nat.le_refl _) (by omega)) z)
      exact ht rfl
    | succ m ih =>
      intro i L r hi hok hr hf ht
      have hri := hrs i (by omega)
      have hi6 : i < 60 := by omega
      rw [vIn] at hr
      by_cases hq9 : (rs i).2.1 = q
      · rw [if_pos hq9] at hr
        cases hA : (aStep S T (mi 4) (ma 3) rs) i L with
        | none =>
          rw [hA] at hr
          subst hr
          have hf := hf rfl
          rw [hf] at hret
          refine pm_iload_n dM_verify_41 rfl (q := 42) rfl ?_
          refine pm_aload_n dM_verify_42 rfl (q := 43) rfl ?_
          refine pm_get fl_M_89 dM_verify_43 rfl rfl (q := 46) rfl ?_
          refine pm_icmp_ge (tgt := 81) dM_verify_46 rfl (q := 49) rfl (fun z => absurd z (by show ¬ mi 19 ≤ nI i; rw [hN]; exact nI_ge (by omega) (by omega))) (fun _ => ?_)
          refine pm_aload_n dM_verify_49 rfl (q := 50) rfl ?_
          refine pm_get fl_M_63 dM_verify_50 rfl rfl (q := 53) rfl ?_
          refine pm_iload_n dM_verify_53 rfl (q := 54) rfl ?_
          refine pm_ialdN dM_verify_54 rfl hi6 (Nat.le_of_ble_eq_true rfl) (q := 55) rfl ?_
          refine pm_topL (y := nI (rs i).2.1) hri.2.1 ?_
          refine pm_iload_n dM_verify_55 rfl (q := 56) rfl ?_
          refine pm_icmp_ne (tgt := 81) dM_verify_56 rfl (q := 59) rfl (fun z => absurd (by rw [hq9]) z) (fun _ => ?_)
          refine pm_aload_n dM_verify_59 rfl (q := 60) rfl ?_
          refine pm_aload_n dM_verify_60 rfl (q := 61) rfl ?_
          refine pm_get fl_M_75 dM_verify_61 rfl rfl (q := 64) rfl ?_
          refine pm_iload_n dM_verify_64 rfl (q := 65) rfl ?_
          refine pm_cV2i hK (kM_act_none hl 2 (Nat.le_refl _) mH_at (L := L) rfl hok (show (up1 mi 0 0) 1 = nI S from hS) hS1 hS3 (show (up1 mi 0 0) 2 = nI T from hT) hT3 i (by omega) hri.1 hA) mo_M_act im_M_act se_M_act lk_M_182 dM_verify_65 (by omega) (Nat.le_of_ble_eq_true rfl) (Nat.zero_le _) (Nat.zero_le _) rfl rfl rfl (q := 68) rfl ?_
          refine pm_if_ne (tgt := 75) dM_verify_68 rfl (q := 71) rfl (fun z => absurd rfl z) (fun _ => ?_)
          refine pm_iload_n dM_verify_71 rfl (q := 72) rfl ?_
          refine pm_iconst (x := 1) dM_verify_72 (by decide) (q := 73) rfl ?_
          refine pm_iadd dM_verify_73 (q := 74) rfl ?_
          exact pm_retI hret dM_verify_74 (nI_succ i).symm
        | some L' =>
          rw [hA] at hr
          have hok' : pOk L' T := aAct_ok hok hS3 hri.1.2.1 (rM_s hri.1) hA
          refine pm_iload_n dM_verify_41 rfl (q := 42) rfl ?_
          refine pm_aload_n dM_verify_42 rfl (q := 43) rfl ?_
          refine pm_get fl_M_89 dM_verify_43 rfl rfl (q := 46) rfl ?_
          refine pm_icmp_ge (tgt := 81) dM_verify_46 rfl (q := 49) rfl (fun z => absurd z (by show ¬ mi 19 ≤ nI i; rw [hN]; exact nI_ge (by omega) (by omega))) (fun _ => ?_)
          refine pm_aload_n dM_verify_49 rfl (q := 50) rfl ?_
          refine pm_get fl_M_63 dM_verify_50 rfl rfl (q := 53) rfl ?_
          refine pm_iload_n dM_verify_53 rfl (q := 54) rfl ?_
          refine pm_ialdN dM_verify_54 rfl hi6 (Nat.le_of_ble_eq_true rfl) (q := 55) rfl ?_
          refine pm_topL (y := nI (rs i).2.1) hri.2.1 ?_
          refine pm_iload_n dM_verify_55 rfl (q := 56) rfl ?_
          refine pm_icmp_ne (tgt := 81) dM_verify_56 rfl (q := 59) rfl (fun z => absurd (by rw [hq9]) z) (fun _ => ?_)
          refine pm_aload_n dM_verify_59 rfl (q := 60) rfl ?_
          refine pm_aload_n dM_verify_60 rfl (q := 61) rfl ?_
          refine pm_get fl_M_75 dM_verify_61 rfl rfl (q := 64) rfl ?_
          refine pm_iload_n dM_verify_64 rfl (q := 65) rfl ?_
          refine pm_cV2i hK (kM_act_some hl 2 (Nat.le_refl _) mH_at (L := L) rfl hok (show (up1 mi 0 0) 1 = nI S from hS) hS1 hS3 (show (up1 mi 0 0) 2 = nI T from hT) hT3 i (by omega) hri.1 hA) mo_M_act im_M_act se_M_act lk_M_182 dM_verify_65 (by omega) (Nat.le_of_ble_eq_true rfl) (Nat.zero_le _) (Nat.zero_le _) rfl rfl rfl (q := 68) rfl ?_
          refine pm_if_ne (tgt := 75) dM_verify_68 rfl (q := 71) rfl (fun _ => ?_) (fun z => absurd z (by decide))
          refine pm_iincL dM_verify_75 rfl (by decide) (y := nI (i + 1)) (by rw [nI_succ]; rfl) (q := 78) rfl ?_
          refine pm_goto (tgt := 41) dM_verify_78 rfl ?_
          refine pm_heap (g := (cH pd si sa hv ha sl sc pl pa (mH (up1 mi 0 0) (up1 ma 15 (sM L')) tl))) rfl ?_
          exact ih (i + 1) L' r (by omega) hok' hr hf ht
      · rw [if_neg hq9] at hr
        subst hr
        refine pm_iload_n dM_verify_41 rfl (q := 42) rfl ?_
        refine pm_aload_n dM_verify_42 rfl (q := 43) rfl ?_
        refine pm_get fl_M_89 dM_verify_43 rfl rfl (q := 46) rfl ?_
        refine pm_icmp_ge (tgt := 81) dM_verify_46 rfl (q := 49) rfl (fun z => absurd z (by show ¬ mi 19 ≤ nI i; rw [hN]; exact nI_ge (by omega) (by omega))) (fun _ => ?_)
        refine pm_aload_n dM_verify_49 rfl (q := 50) rfl ?_
        refine pm_get fl_M_63 dM_verify_50 rfl rfl (q := 53) rfl ?_
        refine pm_iload_n dM_verify_53 rfl (q := 54) rfl ?_
        refine pm_ialdN dM_verify_54 rfl hi6 (Nat.le_of_ble_eq_true rfl) (q := 55) rfl ?_
        refine pm_topL (y := nI (rs i).2.1) hri.2.1 ?_
        refine pm_iload_n dM_verify_55 rfl (q := 56) rfl ?_
        refine pm_icmp_ne (tgt := 81) dM_verify_56 rfl (q := 59) rfl (fun _ => ?_) (fun z => absurd (nI_inj (by omega) (by omega) z) hq9)
        exact ht rfl
  have hO : ∀ (m q i : Nat) (L : pL), m + q = P → i ≤ N → pOk L T → pIn L S → vOut (aStep S T (mi 4) (ma 3) rs) (fun i => (rs i).2.1) (badM mi ma S) N m q i L = (vOut (aStep S T (mi 4) (ma 3) rs) (fun i => (rs i).2.1) (badM mi ma S) N P 0 0 pE) → pm_Go mM_verify K G 33 [some (.ref 31), some (.int (nI i)), some (.int (nI q))] [] (cH pd si sa hv ha sl sc pl pa (mH (up1 mi 0 0) (up1 ma 15 (sM L)) tl)) 0 0 := by
    intro m
    induction m with
    | zero =>
      intro q i L hq hi hok hin hr
      have hq : q = P := by omega
      subst hq
      refine pm_iload_n dM_verify_33 rfl (q := 34) rfl ?_
      refine pm_aload_n dM_verify_34 rfl (q := 35) rfl ?_
      refine pm_get fl_M_16 dM_verify_35 rfl rfl (q := 38) rfl ?_
      refine pm_icmp_ge (tgt := 131) dM_verify_38 rfl (q := 41) rfl (fun _ => ?_) (fun z => absurd (by show mi 3 ≤ nI q; rw [hP]; exact nI_le (Nat.le_refl _) (by omega)) z)
      refine pm_iconst (x := 0) dM_verify_131 (by decide) (q := 132) rfl ?_
      refine pm_istore_n dM_verify_132 (by decide) (q := 133) rfl ?_
      exact hZ L i hok (by rw [← hr, vOut]) 9 0 (by omega) (fun k9 h9 => by omega)
    | succ m ih =>
      intro q i L hq hi hok hin hr
      have hle := vIn_le (aStep S T (mi 4) (ma 3) rs) (fun i => (rs i).2.1) q (N - i) i L
      obtain ⟨hok2, hin2⟩ := vIn_ok (T := T) (cap := mi 4) (W := ma 3) hS3 hr5 (fun i => (rs i).2.1) q (N - i) i L (by omega) hok hin
      rw [vOut] at hr
      have hIn := hI q (by omega) (N - i) i L _ (by omega) hok rfl
      generalize vIn (aStep S T (mi 4) (ma 3) rs) (fun i => (rs i).2.1) q (N - i) i L = r at hr hle hok2 hin2 hIn
      obtain ⟨⟨i2, L2⟩, g⟩ := r
      dsimp only at hr hle hok2 hin2 hIn
      refine pm_iload_n dM_verify_33 rfl (q := 34) rfl ?_
      refine pm_aload_n dM_verify_34 rfl (q := 35) rfl ?_
      refine pm_get fl_M_16 dM_verify_35 rfl rfl (q := 38) rfl ?_
      refine pm_icmp_ge (tgt := 131) dM_verify_38 rfl (q := 41) rfl (fun z => absurd z (by show ¬ mi 3 ≤ nI q; rw [hP]; exact nI_ge (by omega) (by omega))) (fun _ => ?_)
      refine hIn (fun z => ?_) (fun z => ?_)
      · rw [if_pos z] at hr; exact hr.symm
      · subst z
        rw [if_neg (by decide)] at hr
        have s1 := fM_so_cg (mi := up1 mi 0 0) (mi' := mi) (ma := up1 ma 15 (sM L2)) (ma' := ma) (f := sM L2) (S := S) rfl rfl rfl rfl rfl rfl rfl S
        have s2 := fM_all_cg (mi := up1 mi 0 0) (mi' := mi) (ma := up1 ma 15 (sM L2)) (ma' := ma) (f := sM L2) rfl rfl rfl rfl (nI q) 5
        by_cases hm : m = 0
        · rw [if_neg (fun y => y.1 hm)] at hr
          refine pm_iload_n dM_verify_81 rfl (q := 82) rfl ?_
          refine pm_aload_n dM_verify_82 rfl (q := 83) rfl ?_
          refine pm_get fl_M_16 dM_verify_83 rfl rfl (q := 86) rfl ?_
          refine pm_iconst (x := 1) dM_verify_86 (by decide) (q := 87) rfl ?_
          refine pm_isub dM_verify_87 (q := 88) rfl ?_
          refine pm_topL (y := nI (P - 1)) (by show mi 3 - 1 = nI (P - 1); rw [hP, show nI P = nI (P - 1 + 1) from by rw [Nat.sub_add_cancel hP1], nI_succ]; exact Int32.add_sub_cancel _ _) ?_
          refine pm_icmp_ge (tgt := 125) dM_verify_88 rfl (q := 91) rfl (fun _ => ?_) (fun y => absurd (nI_le (by omega) (by omega)) y)
          refine pm_iincL dM_verify_125 rfl (by decide) (y := nI (q + 1)) (by rw [nI_succ]; rfl) (q := 128) rfl ?_
          refine pm_goto (tgt := 33) dM_verify_128 rfl ?_
          exact ih (q + 1) i2 L2 (by omega) (by omega) hok2 hin2 hr
        · have hB : ∀ (st : badM mi ma S q L2 = true), pm_Go mM_verify K G 114 [some (.ref 31), some (.int (nI i2)), some (.int (nI q))] [] (cH pd si sa hv ha sl sc pl pa (mH (up1 mi 0 0) (up1 ma 15 (sM L2)) tl)) 0 0 := by
            intro st
            rw [if_pos ⟨hm, st⟩] at hr
            rw [← hr] at hret
            by_cases hi2 : i2 < 1
            · rw [if_pos hi2] at hret
              refine pm_iload_n dM_verify_114 rfl (q := 115) rfl ?_
              refine pm_iconst (x := 1) dM_verify_115 (by decide) (q := 116) rfl ?_
              refine pm_icmp_ge (tgt := 123) dM_verify_116 rfl (q := 119) rfl (fun y => absurd y (show ¬ nI 1 ≤ nI i2 from nI_ge (by omega) (by omega))) (fun _ => ?_)
              refine pm_iconst (x := 1) dM_verify_119 (by decide) (q := 120) rfl ?_
              refine pm_goto (tgt := 124) dM_verify_120 rfl ?_
              exact pm_retI hret dM_verify_124 rfl
            · rw [if_neg hi2] at hret
              refine pm_iload_n dM_verify_114 rfl (q := 115) rfl ?_
              refine pm_iconst (x := 1) dM_verify_115 (by decide) (q := 116) rfl ?_
              refine pm_icmp_ge (tgt := 123) dM_verify_116 rfl (q := 119) rfl (fun _ => ?_) (fun y => absurd (show nI 1 ≤ nI i2 from nI_le (by omega) (by omega)) y)
              refine pm_iload_n dM_verify_123 rfl (q := 124) rfl ?_
              exact pm_retI hret dM_verify_124 rfl
          refine pm_iload_n dM_verify_81 rfl (q := 82) rfl ?_
          refine pm_aload_n dM_verify_82 rfl (q := 83) rfl ?_
          refine pm_get fl_M_16 dM_verify_83 rfl rfl (q := 86) rfl ?_
          refine pm_iconst (x := 1) dM_verify_86 (by decide) (q := 87) rfl ?_
          refine pm_isub dM_verify_87 (q := 88) rfl ?_
          refine pm_topL (y := nI (P - 1)) (by show mi 3 - 1 = nI (P - 1); rw [hP, show nI P = nI (P - 1 + 1) from by rw [Nat.sub_add_cancel hP1], nI_succ]; exact Int32.add_sub_cancel _ _) ?_
          refine pm_icmp_ge (tgt := 125) dM_verify_88 rfl (q := 91) rfl (fun y => absurd y (nI_ge (by omega) (by omega))) (fun _ => ?_)
          refine pm_aload_n dM_verify_91 rfl (q := 92) rfl ?_
          refine pm_aload_n dM_verify_92 rfl (q := 93) rfl ?_
          refine pm_get fl_M_75 dM_verify_93 rfl rfl (q := 96) rfl ?_
          refine pm_cV1i hK (kM_isSound hl 2 (Nat.le_refl _) mH_at rfl (sM_f5 hok2) (show (up1 mi 0 0) 1 = nI S from hS) hS3) mo_M_isSound im_M_isSound se_M_isSound lk_M_139 dM_verify_96 (by omega) (Nat.le_of_ble_eq_true rfl) (Nat.zero_le _) (Nat.zero_le _) rfl rfl rfl (q := 99) rfl ?_
          refine pm_if_eq (tgt := 114) dM_verify_99 rfl (q := 102) rfl (fun h99 => ?_) (fun h99 => ?_)
          · first
            | exact hB (decide_eq_true (Or.inl (s1.symm.trans h99)))
            | exact hB (decide_eq_true (Or.inr (s2.symm.trans h111)))
          · refine pm_aload_n dM_verify_102 rfl (q := 103) rfl ?_
            refine pm_aload_n dM_verify_103 rfl (q := 104) rfl ?_
            refine pm_get fl_M_75 dM_verify_104 rfl rfl (q := 107) rfl ?_
            refine pm_iload_n dM_verify_107 rfl (q := 108) rfl ?_
            refine pm_cV2i hK (kM_hasAll hl 1 (Nat.le_refl _) mH_at rfl _) mo_M_hasAll im_M_hasAll se_M_hasAll lk_M_135 dM_verify_108 (by omega) (Nat.le_of_ble_eq_true rfl) (Nat.zero_le _) (Nat.zero_le _) rfl rfl rfl (q := 111) rfl ?_
            refine pm_if_ne (tgt := 125) dM_verify_111 rfl (q := 114) rfl (fun h111 => ?_) (fun h111 => ?_)
            · refine pm_iincL dM_verify_125 rfl (by decide) (y := nI (q + 1)) (by rw [nI_succ]; rfl) (q := 128) rfl ?_
              refine pm_goto (tgt := 33) dM_verify_128 rfl ?_
              have nb : ¬ badM mi ma S q L2 = true := fun y => (of_decide_eq_true y).elim (fun w => h99 (s1.trans w)) (fun w => h111 (s2.trans w))
              rw [if_neg (fun y => nb y.2)] at hr
              exact ih (q + 1) i2 L2 (by omega) (by omega) hok2 hin2 hr
            · first
              | exact hB (decide_eq_true (Or.inl (s1.symm.trans h99)))
              | exact hB (decide_eq_true (Or.inr (s2.symm.trans h111)))
  refine pm_aload_n dM_verify_0 rfl (q := 1) rfl ?_
  refine pm_aload_n dM_verify_1 rfl (q := 2) rfl ?_
  refine pm_get fl_M_85 dM_verify_2 rfl rfl (q := 5) rfl ?_
  refine pm_if_ne (tgt := 12) dM_verify_5 rfl (q := 8) rfl (fun _ => ?_) (fun z => absurd z k0)
  refine pm_iconst (x := 0) dM_verify_12 (by decide) (q := 13) rfl ?_
  refine pm_iconst (x := 0) dM_verify_13 (by decide) (q := 14) rfl ?_
  refine pm_cV2i hK (kM_refuse_0 hl 0 _ _ rfl rfl) mo_M_refuse im_M_refuse se_M_refuse lk_M_96 dM_verify_14 (by omega) (Nat.le_of_ble_eq_true rfl) (Nat.zero_le _) (Nat.zero_le _) rfl rfl rfl (q := 17) rfl ?_
  refine pm_if_eq (tgt := 22) dM_verify_17 rfl (q := 20) rfl (fun _ => ?_) (fun z => absurd rfl z)
  refine pm_aload_n dM_verify_22 rfl (q := 23) rfl ?_
  refine pm_get fl_M_75 dM_verify_23 rfl rfl (q := 26) rfl ?_
  refine pm_cS1v hK (kM_empty hl 0 rfl) mo_M_empty st_M_empty lk_M_78 dM_verify_26 (by omega) (Nat.le_of_ble_eq_true rfl) (Nat.zero_le _) (Nat.zero_le _) (q := 29) rfl ?_
  refine pm_iconst (x := 0) dM_verify_29 (by decide) (q := 30) rfl ?_
  refine pm_istore_n dM_verify_30 (by decide) (q := 31) rfl ?_
  refine pm_iconst (x := 0) dM_verify_31 (by decide) (q := 32) rfl ?_
  refine pm_istore_n dM_verify_32 (by decide) (q := 33) rfl ?_
  refine pm_heap (g := (cH pd si sa hv ha sl sc pl pa (mH (up1 mi 0 0) (up1 ma 15 (sM pE)) tl))) rfl ?_
  exact hO P 0 0 pE (by omega) (Nat.zero_le _) (pE_ok T) (pIn_E S) rfl
