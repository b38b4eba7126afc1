/-! the class: verify -/
theorem max_val (i : Nat) (h : i < 1000) : (if nI i < 1 then (1 : Int32) else nI i) = nI (if i < 1 then 1 else i) := by
  by_cases y : i < 1
  · have z : nI i < 1 := show nI i < nI 1 from nI_lt y (by omega)
    rw [if_pos y, if_pos z]; rfl
  · have z : ¬ nI i < 1 := show ¬ nI i < nI 1 from nI_nlt (by omega) (by omega)
    rw [if_neg y, if_neg z]
def badC (si : Nat → Int32) (sa : Nat → Nat → Int32) (S B q : Nat) (L : pL) : Bool := decide (fmay si (sM L) (fun s => nI (L s).length) (fun s => pW (sa 3) (L s)) sa (pV (sa 3) L) (nI q) S B = 0)
theorem hold_ok {si : Nat → Int32} {L : pL} {S T : Nat} (hL : pOk L T) (hT : T ≤ 3) (hS : si 0 = nI S) (hS3 : S ≤ 3) : HoldOk si (sM L) (fun s => nI (L s).length) S := by
  refine ⟨hS, hS3, fun s hs => ⟨(L s).length, Nat.le_trans (hL.len s) hT, rfl, fun j hj => ?_⟩⟩
  have := hL.len s
  rw [show s * 3 = 3 * s by omega, sM_in (by omega) (List.getElem?_eq_getElem hj)]
  exact vp_in_nI (hL.box _ _ (List.getElem_mem hj)) (by omega)
theorem fab_zero {L : pL} {T : Nat} (hL : pOk L T) (hT : T ≤ 3) : fab (sM L) 9 = 0 ↔ (L 0 = [] ∧ L 1 = [] ∧ L 2 = []) := by
  obtain ⟨i1, i2, i3⟩ := fabN_ok (sM L) 9 (sM_two hL)
  rw [sM_all hL hT, i1]
  constructor
  · intro h k hk
    have h0 : fabN (sM L) 9 = 0 := nI_inj (by omega) (by omega) h
    rcases sM_two hL k hk with z | ⟨c, hc, z⟩
    · rw [z]; decide
    · have := (i3 c hc).mpr ⟨k, hk, z⟩
      rw [h0] at this
      simp at this
  · intro h
    have : fabN (sM L) 9 = 0 := (msk_eq i2 (by decide)).mpr fun b hb => by
      rw [i3 b hb]
      refine ⟨fun ⟨k, hk, z⟩ => ?_, fun z => by simp at z⟩
      have := h k hk
      rw [z] at this
      exact absurd this (nI_pos (by omega))
    rw [this]; rfl
set_option maxHeartbeats 8000000 in
theorem kB_verify_ok {l : Launch} (hl : l.stackTraces = false) (d : Nat) (hd : 5 ≤ d) {pd : Int32} {si : Nat → Int32} {sa : Nat → Nat → Int32} {hv : Nat → Int32} {ha : Nat → Nat → Nat → Int32} {sl : Int32} {sc : Nat → Nat → Int32} {pl : Int32} {pa : Nat → Nat → Int32} {tl : pm_H} {S T P B : Nat} (hS : si 0 = nI S) (hS1 : 1 ≤ S) (hS3 : S ≤ 3) (hT : si 1 = nI T) (hT3 : T ≤ 3) (hP : si 2 = nI P) (hP1 : 1 ≤ P) (hP4 : P ≤ 4) (hB : si 7 = nI B) (hB5 : B ≤ 5) {rs : pR} {N : Nat} (hsc : scK S sl sc rs N) (k0 : ¬ pd = 0) : pm_Sem l d mB_verify [.ref 0] (cH pd si sa hv ha sl sc pl pa tl) (some (.int (nI (vOut (aStep S T (si 3) (sa 3) rs) (fun i => (rs i).2.1) (badC si sa S B) N P 0 0 pE).1))) (cH pd si sa (up1 hv 1 (pV (sa 3) (vOut (aStep S T (si 3) (sa 3) rs) (fun i => (rs i).2.1) (badC si sa S B) N P 0 0 pE).2)) (up1 ha 1 (cA (sa 3) (vOut (aStep S T (si 3) (sa 3) rs) (fun i => (rs i).2.1) (badC si sa S B) N P 0 0 pE).2)) sl sc pl pa tl) := by
  refine pm_sem hl mo_B_verify ⟨_, rfl, rfl⟩ rfl rfl (Nat.le_of_ble_eq_true rfl) (fun K G hK hret => ?_)
  obtain ⟨hN, hN3, hrs⟩ := id hsc
  have hr5 : ∀ i, i < N → (rs i).1 < 5 ∧ ∀ s, (rs i).2.2.1 = some s → s < 3 := fun i hi => ⟨(hrs i hi).1.2.1, rC_s hS3 (hrs i hi).1⟩
  have hI : ∀ (q : Nat), q < 4 → ∀ (m i : Nat) (L : pL) (r : (Nat × pL) × Bool), m + i = N → pOk L T → vIn (aStep S T (si 3) (sa 3) rs) (fun i => (rs i).2.1) q m i L = r → (r.2 = false → (vOut (aStep S T (si 3) (sa 3) rs) (fun i => (rs i).2.1) (badC si sa S B) N P 0 0 pE) = (r.1.1 + 1, r.1.2)) → (r.2 = true → pm_Go mB_verify K G 86 [some (.ref 0), some (.int (nI r.1.1)), some (.int (nI q))] [] (cH pd si sa (up1 hv 1 (pV (sa 3) r.1.2)) (up1 ha 1 (cA (sa 3) r.1.2)) sl sc pl pa tl) 0 0) → pm_Go mB_verify K G 37 [some (.ref 0), some (.int (nI i)), some (.int (nI q))] [] (cH pd si sa (up1 hv 1 (pV (sa 3) L)) (up1 ha 1 (cA (sa 3) L)) sl sc pl pa tl) 0 0 := by
    intro q hq m
    induction m with
    | zero =>
      intro i L r hi hok hr hf ht
      have hi : i = N := by omega
      rw [vIn] at hr
      subst hr
      refine pm_iload_n dB_verify_37 rfl (q := 38) rfl ?_
      refine pm_aload_n dB_verify_38 rfl (q := 39) rfl ?_
      refine pm_get fl_B_35 dB_verify_39 rfl rfl (q := 42) rfl ?_
      refine pm_get fl_B_101 dB_verify_42 rfl rfl (q := 45) rfl ?_
      refine pm_icmp_ge (tgt := 86) dB_verify_45 rfl (q := 48) rfl (fun _ => ?_) (fun z => absurd (by rw [hN, hi]; exact nI_le (Nat.le_refl _) (by omega)) z)
      exact ht rfl
    | succ m ih =>
      intro i L r hi hok hr hf ht
      have hri := hrs i (by omega)
      have hi6 : i < 30 := by omega
      rw [vIn] at hr
      by_cases hq9 : (rs i).2.1 = q
      · rw [if_pos hq9] at hr
        cases hA : (aStep S T (si 3) (sa 3) rs) i L with
        | none =>
          rw [hA] at hr
          subst hr
          have hf := hf rfl
          rw [hf] at hret
          refine pm_iload_n dB_verify_37 rfl (q := 38) rfl ?_
          refine pm_aload_n dB_verify_38 rfl (q := 39) rfl ?_
          refine pm_get fl_B_35 dB_verify_39 rfl rfl (q := 42) rfl ?_
          refine pm_get fl_B_101 dB_verify_42 rfl rfl (q := 45) rfl ?_
          refine pm_icmp_ge (tgt := 86) dB_verify_45 rfl (q := 48) rfl (fun z => absurd z (by rw [hN]; exact nI_ge (by omega) (by omega))) (fun _ => ?_)
          refine pm_aload_n dB_verify_48 rfl (q := 49) rfl ?_
          refine pm_get fl_B_35 dB_verify_49 rfl rfl (q := 52) rfl ?_
          refine pm_get fl_B_112 dB_verify_52 rfl rfl (q := 55) rfl ?_
          refine pm_iload_n dB_verify_55 rfl (q := 56) rfl ?_
          refine pm_ialdN dB_verify_56 rfl hi6 (Nat.le_of_ble_eq_true rfl) (q := 57) rfl ?_
          refine pm_topL (y := nI (rs i).2.1) hri.2.1 ?_
          refine pm_iload_n dB_verify_57 rfl (q := 58) rfl ?_
          refine pm_icmp_ne (tgt := 86) dB_verify_58 rfl (q := 61) rfl (fun z => absurd (by rw [hq9]) z) (fun _ => ?_)
          refine pm_aload_n dB_verify_61 rfl (q := 62) rfl ?_
          refine pm_get fl_B_29 dB_verify_62 rfl rfl (q := 65) rfl ?_
          refine pm_aload_n dB_verify_65 rfl (q := 66) rfl ?_
          refine pm_get fl_B_35 dB_verify_66 rfl rfl (q := 69) rfl ?_
          refine pm_iload_n dB_verify_69 rfl (q := 70) rfl ?_
          refine pm_cV2i hK (kH_does1_none hl 4 (Nat.le_refl _) (L := L) hS hS1 hS3 hT hT3 hok rfl rfl i (by omega) hri.1 hA) mo_H_does im_H_does se_H_does lk_B_130 dB_verify_70 (by omega) (Nat.le_of_ble_eq_true rfl) (Nat.zero_le _) (Nat.zero_le _) rfl rfl rfl (q := 73) rfl ?_
          refine pm_if_ne (tgt := 80) dB_verify_73 rfl (q := 76) rfl (fun z => absurd rfl z) (fun _ => ?_)
          refine pm_iload_n dB_verify_76 rfl (q := 77) rfl ?_
          refine pm_iconst (x := 1) dB_verify_77 (by decide) (q := 78) rfl ?_
          refine pm_iadd dB_verify_78 (q := 79) rfl ?_
          exact pm_retI hret dB_verify_79 (nI_succ i).symm
        | some L' =>
          rw [hA] at hr
          have hok' : pOk L' T := aAct_ok hok hS3 hri.1.2.1 (rC_s hS3 hri.1) hA
          refine pm_iload_n dB_verify_37 rfl (q := 38) rfl ?_
          refine pm_aload_n dB_verify_38 rfl (q := 39) rfl ?_
          refine pm_get fl_B_35 dB_verify_39 rfl rfl (q := 42) rfl ?_
          refine pm_get fl_B_101 dB_verify_42 rfl rfl (q := 45) rfl ?_
          refine pm_icmp_ge (tgt := 86) dB_verify_45 rfl (q := 48) rfl (fun z => absurd z (by rw [hN]; exact nI_ge (by omega) (by omega))) (fun _ => ?_)
          refine pm_aload_n dB_verify_48 rfl (q := 49) rfl ?_
          refine pm_get fl_B_35 dB_verify_49 rfl rfl (q := 52) rfl ?_
          refine pm_get fl_B_112 dB_verify_52 rfl rfl (q := 55) rfl ?_
          refine pm_iload_n dB_verify_55 rfl (q := 56) rfl ?_
          refine pm_ialdN dB_verify_56 rfl hi6 (Nat.le_of_ble_eq_true rfl) (q := 57) rfl ?_
          refine pm_topL (y := nI (rs i).2.1) hri.2.1 ?_
          refine pm_iload_n dB_verify_57 rfl (q := 58) rfl ?_
          refine pm_icmp_ne (tgt := 86) dB_verify_58 rfl (q := 61) rfl (fun z => absurd (by rw [hq9]) z) (fun _ => ?_)
          refine pm_aload_n dB_verify_61 rfl (q := 62) rfl ?_
          refine pm_get fl_B_29 dB_verify_62 rfl rfl (q := 65) rfl ?_
          refine pm_aload_n dB_verify_65 rfl (q := 66) rfl ?_
          refine pm_get fl_B_35 dB_verify_66 rfl rfl (q := 69) rfl ?_
          refine pm_iload_n dB_verify_69 rfl (q := 70) rfl ?_
          refine pm_cV2i hK (kH_does1_some hl 4 (Nat.le_refl _) (L := L) hS hS1 hS3 hT hT3 hok rfl rfl i (by omega) hri.1 hA) mo_H_does im_H_does se_H_does lk_B_130 dB_verify_70 (by omega) (Nat.le_of_ble_eq_true rfl) (Nat.zero_le _) (Nat.zero_le _) rfl rfl rfl (q := 73) rfl ?_
          refine pm_if_ne (tgt := 80) dB_verify_73 rfl (q := 76) rfl (fun _ => ?_) (fun z => absurd z (by decide))
          refine pm_iincL dB_verify_80 rfl (by decide) (y := nI (i + 1)) (by rw [nI_succ]; rfl) (q := 83) rfl ?_
          refine pm_goto (tgt := 37) dB_verify_83 rfl ?_
          refine pm_heap (g := (cH pd si sa (up1 hv 1 (pV (sa 3) L')) (up1 ha 1 (cA (sa 3) L')) sl sc pl pa tl)) (by rw [up1_up1, up1_up1]) ?_
          exact ih (i + 1) L' r (by omega) hok' hr hf ht
      · rw [if_neg hq9] at hr
        subst hr
        refine pm_iload_n dB_verify_37 rfl (q := 38) rfl ?_
        refine pm_aload_n dB_verify_38 rfl (q := 39) rfl ?_
        refine pm_get fl_B_35 dB_verify_39 rfl rfl (q := 42) rfl ?_
        refine pm_get fl_B_101 dB_verify_42 rfl rfl (q := 45) rfl ?_
        refine pm_icmp_ge (tgt := 86) dB_verify_45 rfl (q := 48) rfl (fun z => absurd z (by rw [hN]; exact nI_ge (by omega) (by omega))) (fun _ => ?_)
        refine pm_aload_n dB_verify_48 rfl (q := 49) rfl ?_
        refine pm_get fl_B_35 dB_verify_49 rfl rfl (q := 52) rfl ?_
        refine pm_get fl_B_112 dB_verify_52 rfl rfl (q := 55) rfl ?_
        refine pm_iload_n dB_verify_55 rfl (q := 56) rfl ?_
        refine pm_ialdN dB_verify_56 rfl hi6 (Nat.le_of_ble_eq_true rfl) (q := 57) rfl ?_
        refine pm_topL (y := nI (rs i).2.1) hri.2.1 ?_
        refine pm_iload_n dB_verify_57 rfl (q := 58) rfl ?_
        refine pm_icmp_ne (tgt := 86) dB_verify_58 rfl (q := 61) rfl (fun _ => ?_) (fun z => absurd (nI_inj (by omega) (by omega) z) hq9)
        exact ht rfl
  have hO : ∀ (m q i : Nat) (L : pL), m + q = P → i ≤ N → pOk L T → pIn L S → vOut (aStep S T (si 3) (sa 3) rs) (fun i => (rs i).2.1) (badC si sa S B) N m q i L = (vOut (aStep S T (si 3) (sa 3) rs) (fun i => (rs i).2.1) (badC si sa S B) N P 0 0 pE) → pm_Go mB_verify K G 26 [some (.ref 0), some (.int (nI i)), some (.int (nI q))] [] (cH pd si sa (up1 hv 1 (pV (sa 3) L)) (up1 ha 1 (cA (sa 3) L)) sl sc pl pa tl) 0 0 := by
    intro m
    induction m with
    | zero =>
      intro q i L hq hi hok hin hr
      have hq : q = P := by omega
      subst hq
      rw [vOut] at hr
      rw [← hr] at hret
      refine pm_iload_n dB_verify_26 rfl (q := 27) rfl ?_
      refine pm_aload_n dB_verify_27 rfl (q := 28) rfl ?_
      refine pm_get fl_B_16 dB_verify_28 rfl rfl (q := 31) rfl ?_
      refine pm_get fl_B_153 dB_verify_31 rfl rfl (q := 34) rfl ?_
      refine pm_icmp_ge (tgt := 120) dB_verify_34 rfl (q := 37) rfl (fun _ => ?_) (fun z => absurd (by rw [hP]; exact nI_le (Nat.le_refl _) (by omega)) z)
      refine pm_aload_n dB_verify_120 rfl (q := 121) rfl ?_
      refine pm_get fl_B_29 dB_verify_121 rfl rfl (q := 124) rfl ?_
      refine pm_cV0i hK (kH_aboard hl 0 cH_hold1) mo_H_aboard im_H_aboard se_H_aboard lk_B_166 dB_verify_124 (by omega) (Nat.le_of_ble_eq_true rfl) (Nat.zero_le _) (Nat.zero_le _) rfl rfl rfl (q := 127) rfl ?_
      refine pm_if_ne (tgt := 134) dB_verify_127 rfl (q := 130) rfl (fun h127 => ?_) (fun h127 => ?_)
      · refine pm_aload_n dB_verify_134 rfl (q := 135) rfl ?_
        refine pm_get fl_B_35 dB_verify_135 rfl rfl (q := 138) rfl ?_
        refine pm_get fl_B_101 dB_verify_138 rfl rfl (q := 141) rfl ?_
        refine pm_iconst (x := 1) dB_verify_141 (by decide) (q := 142) rfl ?_
        refine pm_iadd dB_verify_142 (q := 143) rfl ?_
        first | (rw [if_pos ((fab_zero hok hT3).mp h127)] at hret; exact pm_retI hret dB_verify_143 rfl) | (rw [if_neg (fun y => h127 ((fab_zero hok hT3).mpr y))] at hret; exact pm_retI hret dB_verify_143 (by rw [hN, nI_succ]))
      · refine pm_iconst (x := 0) dB_verify_130 (by decide) (q := 131) rfl ?_
        refine pm_goto (tgt := 143) dB_verify_131 rfl ?_
        first | (rw [if_pos ((fab_zero hok hT3).mp h127)] at hret; exact pm_retI hret dB_verify_143 rfl) | (rw [if_neg (fun y => h127 ((fab_zero hok hT3).mpr y))] at hret; exact pm_retI hret dB_verify_143 (by rw [hN, nI_succ]))
    | succ m ih =>
      intro q i L hq hi hok hin hr
      have hle := vIn_le (aStep S T (si 3) (sa 3) rs) (fun i => (rs i).2.1) q (N - i) i L
      obtain ⟨hok2, hin2⟩ := vIn_ok (T := T) (cap := si 3) (W := sa 3) hS3 hr5 (fun i => (rs i).2.1) q (N - i) i L (by omega) hok hin
      rw [vOut] at hr
      have hIn := hI q (by omega) (N - i) i L _ (by omega) hok rfl
      generalize vIn (aStep S T (si 3) (sa 3) rs) (fun i => (rs i).2.1) q (N - i) i L = r at hr hle hok2 hin2 hIn
      obtain ⟨⟨i2, L2⟩, g⟩ := r
      dsimp only at hr hle hok2 hin2 hIn
      refine pm_iload_n dB_verify_26 rfl (q := 27) rfl ?_
      refine pm_aload_n dB_verify_27 rfl (q := 28) rfl ?_
      refine pm_get fl_B_16 dB_verify_28 rfl rfl (q := 31) rfl ?_
      refine pm_get fl_B_153 dB_verify_31 rfl rfl (q := 34) rfl ?_
      refine pm_icmp_ge (tgt := 120) dB_verify_34 rfl (q := 37) rfl (fun z => absurd z (by rw [hP]; exact nI_ge (by omega) (by omega))) (fun _ => ?_)
      refine hIn (fun z => ?_) (fun z => ?_)
      · rw [if_pos z] at hr; exact hr.symm
      · subst z
        rw [if_neg (by decide)] at hr
        have eP : si 2 - 1 = nI (P - 1) := by
          rw [hP, show nI P = nI (P - 1 + 1) from by rw [Nat.sub_add_cancel hP1], nI_succ]; exact Int32.add_sub_cancel _ _
        by_cases hm : m = 0
        · rw [if_neg (fun y => y.1 hm)] at hr
          refine pm_iload_n dB_verify_86 rfl (q := 87) rfl ?_
          refine pm_aload_n dB_verify_87 rfl (q := 88) rfl ?_
          refine pm_get fl_B_16 dB_verify_88 rfl rfl (q := 91) rfl ?_
          refine pm_cV0i hK (kS_departures hl 0) mo_S_departures im_S_departures se_S_departures lk_B_155 dB_verify_91 (by omega) (Nat.le_of_ble_eq_true rfl) (Nat.zero_le _) (Nat.zero_le _) rfl rfl rfl (q := 94) rfl ?_
          refine pm_icmp_ge (tgt := 114) dB_verify_94 rfl (q := 97) rfl (fun _ => ?_) (fun y => absurd (by rw [eP]; exact nI_le (by omega) (by omega)) y)
          refine pm_iincL dB_verify_114 rfl (by decide) (y := nI (q + 1)) (by rw [nI_succ]; rfl) (q := 117) rfl ?_
          refine pm_goto (tgt := 26) dB_verify_117 rfl ?_
          exact ih (q + 1) i2 L2 (by omega) (by omega) hok2 hin2 hr
        · skip
          refine pm_iload_n dB_verify_86 rfl (q := 87) rfl ?_
          refine pm_aload_n dB_verify_87 rfl (q := 88) rfl ?_
          refine pm_get fl_B_16 dB_verify_88 rfl rfl (q := 91) rfl ?_
          refine pm_cV0i hK (kS_departures hl 0) mo_S_departures im_S_departures se_S_departures lk_B_155 dB_verify_91 (by omega) (Nat.le_of_ble_eq_true rfl) (Nat.zero_le _) (Nat.zero_le _) rfl rfl rfl (q := 94) rfl ?_
          refine pm_icmp_ge (tgt := 114) dB_verify_94 rfl (q := 97) rfl (fun y => absurd y (by rw [eP]; exact nI_ge (by omega) (by omega))) (fun _ => ?_)
          refine pm_aload_n dB_verify_97 rfl (q := 98) rfl ?_
          refine pm_get fl_B_29 dB_verify_98 rfl rfl (q := 101) rfl ?_
          refine pm_iload_n dB_verify_101 rfl (q := 102) rfl ?_
          refine pm_cV1i hK (kH_mayDepart hl 3 (Nat.le_refl _) cH_hold1 (hold_ok hok2 hT3 hS hS3) hB hB5 _) mo_H_mayDepart im_H_mayDepart se_H_mayDepart lk_B_158 dB_verify_102 (by omega) (Nat.le_of_ble_eq_true rfl) (Nat.zero_le _) (Nat.zero_le _) rfl rfl rfl (q := 105) rfl ?_
          refine pm_if_ne (tgt := 114) dB_verify_105 rfl (q := 108) rfl (fun h105 => ?_) (fun h105 => ?_)
          · refine pm_iincL dB_verify_114 rfl (by decide) (y := nI (q + 1)) (by rw [nI_succ]; rfl) (q := 117) rfl ?_
            refine pm_goto (tgt := 26) dB_verify_117 rfl ?_
            have nb : ¬ badC si sa S B q L2 = true := fun y => h105 (of_decide_eq_true y)
            rw [if_neg (fun y => nb y.2)] at hr
            exact ih (q + 1) i2 L2 (by omega) (by omega) hok2 hin2 hr
          · refine pm_iload_n dB_verify_108 rfl (q := 109) rfl ?_
            refine pm_iconst (x := 1) dB_verify_109 (by decide) (q := 110) rfl ?_
            refine pm_max hK (by omega) (pm_in3 (j := 101) rfl rfl) dB_verify_110 (Nat.le_of_ble_eq_true rfl) (Nat.zero_le _) (Nat.zero_le _) (q := 113) rfl ?_
            rw [if_pos ⟨hm, decide_eq_true h105⟩] at hr; rw [← hr] at hret; exact pm_retI hret dB_verify_113 (max_val i2 (by omega))
  refine pm_aload_n dB_verify_0 rfl (q := 1) rfl ?_
  refine pm_get fl_B_97 dB_verify_1 rfl rfl (q := 4) rfl ?_
  refine pm_if_ne (tgt := 15) dB_verify_4 rfl (q := 7) rfl (fun _ => ?_) (fun z => absurd z k0)
  refine pm_aload_n dB_verify_15 rfl (q := 16) rfl ?_
  refine pm_get fl_B_29 dB_verify_16 rfl rfl (q := 19) rfl ?_
  refine pm_cV0v hK (kH_clear1 hl 1 (Nat.le_refl _)) mo_H_clear im_H_clear se_H_clear lk_B_127 dB_verify_19 (by omega) (Nat.le_of_ble_eq_true rfl) (Nat.zero_le _) (Nat.zero_le _) rfl rfl rfl (q := 22) rfl ?_
  refine pm_iconst (x := 0) dB_verify_22 (by decide) (q := 23) rfl ?_
  refine pm_istore_n dB_verify_23 (by decide) (q := 24) rfl ?_
  refine pm_iconst (x := 0) dB_verify_24 (by decide) (q := 25) rfl ?_
  refine pm_istore_n dB_verify_25 (by decide) (q := 26) rfl ?_
  refine pm_heap (g := (cH pd si sa (up1 hv 1 (pV (sa 3) pE)) (up1 ha 1 (cA (sa 3) pE)) sl sc pl pa tl)) (by rw [← empA_cA, pV_E]) ?_
  exact hO P 0 0 pE (by omega) (Nat.zero_le _) (pE_ok T) (pIn_E S) rfl
