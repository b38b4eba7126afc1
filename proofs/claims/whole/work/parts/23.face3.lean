/-! the face: report, moment; bitCount; due boxes of two departures; an arrangement as a number -/
section Ld
variable {M : pm_M} {K : pm_X → Prop} {G : pm_X → State → Prop} {pc : Nat} {ls : List (Option Value)} {st : List Value} {h : pm_H} {k n : Nat}
theorem pm_ldcw {idx : Nat} {x : Int32} (hw : Cond.constant M.1.cls idx x ∈ pm_ws) (hd : decode M.2.1 pc = .ok (.ldc_w idx, 3)) {q : Nat} (hq : pc + 3 = q) (kk : pm_Go M K G q ls (.int x :: st) h k n) : pm_Go M K G pc ls st h k n := by
  subst hq
  rintro ⟨p, l, e, R, s, m, args, below, meth, c, A, D, κ, α⟩ hK hO H locs rs hs
  exact lv_ldcw hO.1 hO.2.1 hO.2.2.2.2.1 (hO.2.2.2.2.2.1 _ hw) hd (kk _ hK hO H locs rs hs)
theorem pm_look {dflt : Int} {ps : Array (Int × Int)} {len : Nat} {x : Int32} {off : Int} {tgt : Nat} (hd : decode M.2.1 pc = .ok (.lookupswitch dflt ps, len)) (hp : (ps.toList.zip (ps.toList.drop 1)).all (fun (a, next) => a.1 < next.1) = true) (ho : Op.lookupswitch.offset ps.toList dflt x.toInt = off) (ht : (pc : Int) + off = (tgt : Int)) (kk : pm_Go M K G tgt ls st h k n) : pm_Go M K G pc ls (.int x :: st) h k n := by
  rintro ⟨p, l, e, R, s, m, args, below, meth, c, A, D, κ, α⟩ hK hO H locs rs hs
  exact lv_lookup hO.1 hO.2.1 hd hp ho ht (kk _ hK hO H locs rs hs)
end Ld
def us (x y : Int32) : Int32 := (x.toUInt32 >>> (y.toUInt32 &&& Int32.toUInt32 31)).toInt32
def fbc (x : Int32) : Int32 :=
  let a := x - (us x 1 &&& 1431655765)
  let b := (a &&& 858993459) + (us a 2 &&& 858993459)
  let c := (b + us b 4) &&& 252645135
  let e := c + us c 8
  let f := e + us e 16
  f &&& 63
set_option maxHeartbeats 4000000 in
theorem kI_bitCount {l : Launch} (hl : l.stackTraces = false) (d : Nat) (x : Int32) (h : pm_H) : pm_Sem l d mI_bitCount [.int x] h (some (.int (fbc x))) h := by
  refine pm_sem hl mo_I_bitCount ⟨_, rfl, rfl⟩ rfl rfl (Nat.le_of_ble_eq_true rfl) (fun K G hK hret => ?_)
  refine pm_iload_n dI_bitCount_0 rfl (q := 1) rfl ?_
  refine pm_iload_n dI_bitCount_1 rfl (q := 2) rfl ?_
  refine pm_iconst (x := 1) dI_bitCount_2 (by decide) (q := 3) rfl ?_
  refine pm_iushr dI_bitCount_3 (q := 4) rfl ?_
  refine pm_ldcw (pm_in2 (j := 66) rfl rfl) dI_bitCount_4 (q := 7) rfl ?_
  refine pm_iand dI_bitCount_7 (q := 8) rfl ?_
  refine pm_isub dI_bitCount_8 (q := 9) rfl ?_
  refine pm_istore_n dI_bitCount_9 (by decide) (q := 10) rfl ?_
  refine pm_iload_n dI_bitCount_10 rfl (q := 11) rfl ?_
  refine pm_ldcw (pm_in2 (j := 67) rfl rfl) dI_bitCount_11 (q := 14) rfl ?_
  refine pm_iand dI_bitCount_14 (q := 15) rfl ?_
  refine pm_iload_n dI_bitCount_15 rfl (q := 16) rfl ?_
  refine pm_iconst (x := 2) dI_bitCount_16 (by decide) (q := 17) rfl ?_
  refine pm_iushr dI_bitCount_17 (q := 18) rfl ?_
  refine pm_ldcw (pm_in2 (j := 67) rfl rfl) dI_bitCount_18 (q := 21) rfl ?_
  refine pm_iand dI_bitCount_21 (q := 22) rfl ?_
  refine pm_iadd dI_bitCount_22 (q := 23) rfl ?_
  refine pm_istore_n dI_bitCount_23 (by decide) (q := 24) rfl ?_
  refine pm_iload_n dI_bitCount_24 rfl (q := 25) rfl ?_
  refine pm_iload_n dI_bitCount_25 rfl (q := 26) rfl ?_
  refine pm_iconst (x := 4) dI_bitCount_26 (by decide) (q := 27) rfl ?_
  refine pm_iushr dI_bitCount_27 (q := 28) rfl ?_
  refine pm_iadd dI_bitCount_28 (q := 29) rfl ?_
  refine pm_ldcw (pm_in2 (j := 68) rfl rfl) dI_bitCount_29 (q := 32) rfl ?_
  refine pm_iand dI_bitCount_32 (q := 33) rfl ?_
  refine pm_istore_n dI_bitCount_33 (by decide) (q := 34) rfl ?_
  refine pm_iload_n dI_bitCount_34 rfl (q := 35) rfl ?_
  refine pm_iload_n dI_bitCount_35 rfl (q := 36) rfl ?_
  refine pm_bipush (x := 8) dI_bitCount_36 (by decide) (q := 38) rfl ?_
  refine pm_iushr dI_bitCount_38 (q := 39) rfl ?_
  refine pm_iadd dI_bitCount_39 (q := 40) rfl ?_
  refine pm_istore_n dI_bitCount_40 (by decide) (q := 41) rfl ?_
  refine pm_iload_n dI_bitCount_41 rfl (q := 42) rfl ?_
  refine pm_iload_n dI_bitCount_42 rfl (q := 43) rfl ?_
  refine pm_bipush (x := 16) dI_bitCount_43 (by decide) (q := 45) rfl ?_
  refine pm_iushr dI_bitCount_45 (q := 46) rfl ?_
  refine pm_iadd dI_bitCount_46 (q := 47) rfl ?_
  refine pm_istore_n dI_bitCount_47 (by decide) (q := 48) rfl ?_
  refine pm_iload_n dI_bitCount_48 rfl (q := 49) rfl ?_
  refine pm_bipush (x := 63) dI_bitCount_49 (by decide) (q := 51) rfl ?_
  refine pm_iand dI_bitCount_51 (q := 52) rfl ?_
  exact pm_retI hret dI_bitCount_52 rfl
def fsame (sa : Nat → Nat → Int32) (q r : Int32) (B : Nat) : Int32 := if fdue sa q B = fdue sa r B then 1 else 0
theorem fsame_b (sa : Nat → Nat → Int32) (q r : Int32) (B : Nat) : narrow .boolean (.int (fsame sa q r B)) = .int (fsame sa q r B) := by
  unfold fsame; split <;> rfl
set_option maxHeartbeats 4000000 in
theorem kP_sameBoxes {l : Launch} (hl : l.stackTraces = false) (d : Nat) (hd : 1 ≤ d) {pd : Int32} {si : Nat → Int32} {sa : Nat → Nat → Int32} {hv : Nat → Int32} {ha : Nat → Nat → Nat → Int32} {sl : Int32} {sc : Nat → Nat → Int32} {pl : Int32} {pa : Nat → Nat → Int32} {tl : pm_H} {B : Nat} (hb : si 7 = nI B) (hB : B ≤ 5) (q r : Int32) : pm_Sem l d mP_sameBoxes [.ref 21, .int q, .int r] (cH pd si sa hv ha sl sc pl pa tl) (some (.int (fsame sa q r B))) (cH pd si sa hv ha sl sc pl pa tl) := by
  refine pm_sem hl mo_P_sameBoxes ⟨_, rfl, fsame_b _ _ _ _⟩ rfl rfl (Nat.le_of_ble_eq_true rfl) (fun K G hK hret => ?_)
  refine pm_aload_n dP_sameBoxes_0 rfl (q := 1) rfl ?_
  refine pm_get fl_P_27 dP_sameBoxes_1 rfl rfl (q := 4) rfl ?_
  refine pm_iload_n dP_sameBoxes_4 rfl (q := 5) rfl ?_
  refine pm_cV1i hK (kS_dueAt hl 0 _ hb hB) mo_S_dueAt im_S_dueAt se_S_dueAt lk_P_89 dP_sameBoxes_5 (by omega) (Nat.le_of_ble_eq_true rfl) (Nat.zero_le _) (Nat.zero_le _) rfl rfl rfl (q := 8) rfl ?_
  refine pm_aload_n dP_sameBoxes_8 rfl (q := 9) rfl ?_
  refine pm_get fl_P_27 dP_sameBoxes_9 rfl rfl (q := 12) rfl ?_
  refine pm_iload_n dP_sameBoxes_12 rfl (q := 13) rfl ?_
  refine pm_cV1i hK (kS_dueAt hl 0 _ hb hB) mo_S_dueAt im_S_dueAt se_S_dueAt lk_P_89 dP_sameBoxes_13 (by omega) (Nat.le_of_ble_eq_true rfl) (Nat.zero_le _) (Nat.zero_le _) rfl rfl rfl (q := 16) rfl ?_
  refine pm_icmp_ne (tgt := 23) dP_sameBoxes_16 rfl (q := 19) rfl (fun h16 => ?_) (fun h16 => ?_)
  · refine pm_iconst (x := 0) dP_sameBoxes_23 (by decide) (q := 24) rfl ?_
    exact pm_retI hret dP_sameBoxes_24 (by simp [fsame, h16])
  · refine pm_iconst (x := 1) dP_sameBoxes_19 (by decide) (q := 20) rfl ?_
    refine pm_goto (tgt := 24) dP_sameBoxes_20 rfl ?_
    exact pm_retI hret dP_sameBoxes_24 (by simp [fsame, h16])
set_option maxHeartbeats 4000000 in
theorem kP_staying {l : Launch} (hl : l.stackTraces = false) (d : Nat) (hd : 1 ≤ d) {pd : Int32} {si : Nat → Int32} {sa : Nat → Nat → Int32} {hv : Nat → Int32} {ha : Nat → Nat → Nat → Int32} {sl : Int32} {sc : Nat → Nat → Int32} {pl : Int32} {pa : Nat → Nat → Int32} {tl : pm_H} {B : Nat} (hb : si 7 = nI B) (hB : B ≤ 5) (q : Int32) : pm_Sem l d mP_staying [.ref 21, .int q] (cH pd si sa hv ha sl sc pl pa tl) (some (.int (fbc (fdue sa q B &&& fdue sa (q + 1) B)))) (cH pd si sa hv ha sl sc pl pa tl) := by
  refine pm_sem hl mo_P_staying ⟨_, rfl, rfl⟩ rfl rfl (Nat.le_of_ble_eq_true rfl) (fun K G hK hret => ?_)
  refine pm_aload_n dP_staying_0 rfl (q := 1) rfl ?_
  refine pm_get fl_P_27 dP_staying_1 rfl rfl (q := 4) rfl ?_
  refine pm_iload_n dP_staying_4 rfl (q := 5) rfl ?_
  refine pm_cV1i hK (kS_dueAt hl 0 _ hb hB) mo_S_dueAt im_S_dueAt se_S_dueAt lk_P_89 dP_staying_5 (by omega) (Nat.le_of_ble_eq_true rfl) (Nat.zero_le _) (Nat.zero_le _) rfl rfl rfl (q := 8) rfl ?_
  refine pm_aload_n dP_staying_8 rfl (q := 9) rfl ?_
  refine pm_get fl_P_27 dP_staying_9 rfl rfl (q := 12) rfl ?_
  refine pm_iload_n dP_staying_12 rfl (q := 13) rfl ?_
  refine pm_iconst (x := 1) dP_staying_13 (by decide) (q := 14) rfl ?_
  refine pm_iadd dP_staying_14 (q := 15) rfl ?_
  refine pm_cV1i hK (kS_dueAt hl 0 _ hb hB) mo_S_dueAt im_S_dueAt se_S_dueAt lk_P_89 dP_staying_15 (by omega) (Nat.le_of_ble_eq_true rfl) (Nat.zero_le _) (Nat.zero_le _) rfl rfl rfl (q := 18) rfl ?_
  refine pm_iand dP_staying_18 (q := 19) rfl ?_
  refine pm_cS1i hK (kI_bitCount hl 0 _ _) mo_I_bitCount st_I_bitCount lk_P_141 dP_staying_19 (by omega) (Nat.le_of_ble_eq_true rfl) (Nat.zero_le _) (Nat.zero_le _) (q := 22) rfl ?_
  exact pm_retI hret dP_staying_22 rfl
def fof (f : Nat → Int32) : Nat → Int32
  | 0 => 0
  | j + 1 => (fof f j <<< (3 &&& 31)) ||| (f j - (-1))
set_option maxHeartbeats 4000000 in
theorem kC_of {l : Launch} (hl : l.stackTraces = false) (d : Nat) {pd : Int32} {si : Nat → Int32} {sa : Nat → Nat → Int32} {hv : Nat → Int32} {ha : Nat → Nat → Nat → Int32} {sl : Int32} {sc : Nat → Nat → Int32} {pl : Int32} {pa : Nat → Nat → Int32} {tl : pm_H} : pm_Sem l d mC_of [.ref 27] (cH pd si sa hv ha sl sc pl pa tl) (some (.int (fof (ha 2 0) 9))) (cH pd si sa hv ha sl sc pl pa tl) := by
  refine pm_sem hl mo_C_of ⟨_, rfl, rfl⟩ rfl rfl (Nat.le_of_ble_eq_true rfl) (fun K G hK hret => ?_)
  have hL : ∀ (m j : Nat) (o : Option Value), m + j = 9 → pm_Go mC_of K G 13 [some (.ref 27), some (.int (fof (ha 2 0) j)), some (.ref 28), some (.int (nI 9)), some (.int (nI j)), o] [] (cH pd si sa hv ha sl sc pl pa tl) 0 0 := by
    intro m
    induction m with
    | zero =>
      intro j o hj
      have hj : j = 9 := by omega
      subst hj
      refine pm_iload dC_of_13 rfl (q := 15) rfl ?_
      refine pm_iload_n dC_of_15 rfl (q := 16) rfl ?_
      refine pm_icmp_ge (tgt := 40) dC_of_16 rfl (q := 19) rfl (fun _ => ?_) (fun z => absurd (nI_le (Nat.le_refl _) (by omega)) z)
      refine pm_iload_n dC_of_40 rfl (q := 41) rfl ?_
      exact pm_retI hret dC_of_41 rfl
    | succ m ih =>
      intro j o hj
      have hj9 : j < 9 := by omega
      refine pm_iload dC_of_13 rfl (q := 15) rfl ?_
      refine pm_iload_n dC_of_15 rfl (q := 16) rfl ?_
      refine pm_icmp_ge (tgt := 40) dC_of_16 rfl (q := 19) rfl (fun z => absurd z (nI_ge hj9 (by omega))) (fun _ => ?_)
      refine pm_aload_n dC_of_19 rfl (q := 20) rfl ?_
      refine pm_iload dC_of_20 rfl (q := 22) rfl ?_
      refine pm_ialdN dC_of_22 rfl (hj9) (Nat.le_of_ble_eq_true rfl) (q := 23) rfl ?_
      refine pm_istore dC_of_23 (by decide) (q := 25) rfl ?_
      refine pm_iload_n dC_of_25 rfl (q := 26) rfl ?_
      refine pm_iconst (x := 3) dC_of_26 (by decide) (q := 27) rfl ?_
      refine pm_ishl dC_of_27 (q := 28) rfl ?_
      refine pm_iload dC_of_28 rfl (q := 30) rfl ?_
      refine pm_iconst (x := -1) dC_of_30 (by decide) (q := 31) rfl ?_
      refine pm_isub dC_of_31 (q := 32) rfl ?_
      refine pm_ior dC_of_32 (q := 33) rfl ?_
      refine pm_istore_n dC_of_33 (by decide) (q := 34) rfl ?_
      refine pm_iincL dC_of_34 rfl (by decide) (y := nI (j + 1)) (by rw [nI_succ]; rfl) (q := 37) rfl ?_
      refine pm_goto (tgt := 13) dC_of_37 rfl ?_
      exact ih (j + 1) _ (by omega)
  refine pm_iconst (x := 0) dC_of_0 (by decide) (q := 1) rfl ?_
  refine pm_istore_n dC_of_1 (by decide) (q := 2) rfl ?_
  refine pm_aload_n dC_of_2 rfl (q := 3) rfl ?_
  refine pm_get fl_C_11 dC_of_3 rfl rfl (q := 6) rfl ?_
  refine pm_astore_n dC_of_6 (by decide) (q := 7) rfl ?_
  refine pm_aload_n dC_of_7 rfl (q := 8) rfl ?_
  refine pm_ilen dC_of_8 rfl (q := 9) rfl ?_
  refine pm_istore_n dC_of_9 (by decide) (q := 10) rfl ?_
  refine pm_iconst (x := 0) dC_of_10 (by decide) (q := 11) rfl ?_
  refine pm_istore dC_of_11 (by decide) (q := 13) rfl ?_
  exact hL 9 0 _ (by omega)
def frep (sa sc : Nat → Nat → Int32) (b I w : Nat) : Int32 :=
  if w = 0 then (if ¬ ne1 (sc 3 I) = 0 ∧ sa 1 b = sc 1 I then 1 else 0) else if w = 1 then (if ne1 (sc 3 I) = 0 ∧ sa 2 b = sc 1 I then 1 else 0) else (if ¬ ne1 (sc 3 I) = 0 ∧ ¬ sa 1 b = sc 1 I then 1 else 0)
theorem frep_b (sa sc : Nat → Nat → Int32) (b I w : Nat) : narrow .boolean (.int (frep sa sc b I w)) = .int (frep sa sc b I w) := by
  unfold frep; split
  · split <;> rfl
  · split
    · split <;> rfl
    · split <;> rfl
set_option maxHeartbeats 4000000 in
theorem kB_isReported_0 {l : Launch} (hl : l.stackTraces = false) (d : Nat) (hd : 1 ≤ d) {pd : Int32} {si : Nat → Int32} {sa : Nat → Nat → Int32} {hv : Nat → Int32} {ha : Nat → Nat → Nat → Int32} {sl : Int32} {sc : Nat → Nat → Int32} {pl : Int32} {pa : Nat → Nat → Int32} {tl : pm_H} (I b : Nat) (hI : I < 30) (hb : b < 5) (m1 : sc 0 I = nI b) : pm_Sem l d mB_isReported [.ref 0, .int (nI I), .int 0] (cH pd si sa hv ha sl sc pl pa tl) (some (.int (frep sa sc b I 0))) (cH pd si sa hv ha sl sc pl pa tl) := by
  refine pm_sem hl mo_B_isReported ⟨_, rfl, frep_b _ _ _ _ _⟩ rfl rfl (Nat.le_of_ble_eq_true rfl) (fun K G hK hret => ?_)
  have hc : (nI I).toNatClampNeg = I := nI_clamp (by omega)
  refine pm_aload_n dB_isReported_0 rfl (q := 1) rfl ?_
  refine pm_get fl_B_35 dB_isReported_1 rfl rfl (q := 4) rfl ?_
  refine pm_get fl_B_108 dB_isReported_4 rfl rfl (q := 7) rfl ?_
  refine pm_iload_n dB_isReported_7 rfl (q := 8) rfl ?_
  refine pm_ialdN dB_isReported_8 rfl (by omega) (Nat.le_of_ble_eq_true rfl) (q := 9) rfl ?_
  refine pm_topL (y := nI b) m1 ?_
  refine pm_istore_n dB_isReported_9 (by decide) (q := 10) rfl ?_
  refine pm_aload_n dB_isReported_10 rfl (q := 11) rfl ?_
  refine pm_get fl_B_35 dB_isReported_11 rfl rfl (q := 14) rfl ?_
  refine pm_get fl_B_112 dB_isReported_14 rfl rfl (q := 17) rfl ?_
  refine pm_iload_n dB_isReported_17 rfl (q := 18) rfl ?_
  refine pm_ialdN dB_isReported_18 rfl (by omega) (Nat.le_of_ble_eq_true rfl) (q := 19) rfl ?_
  refine pm_istore dB_isReported_19 (by decide) (q := 21) rfl ?_
  refine pm_iload_n dB_isReported_21 rfl (q := 22) rfl ?_
  refine pm_look (tgt := 48) dB_isReported_22 (by decide) (off := 26) (by decide) rfl ?_
  refine pm_aload_n dB_isReported_48 rfl (q := 49) rfl ?_
  refine pm_get fl_B_35 dB_isReported_49 rfl rfl (q := 52) rfl ?_
  refine pm_iload_n dB_isReported_52 rfl (q := 53) rfl ?_
  refine pm_cV1i hK (kT_putsOn hl 0 _ (vp_in_nI hI (by omega))) mo_T_putsOn im_T_putsOn se_T_putsOn lk_B_124 dB_isReported_53 (by omega) (Nat.le_of_ble_eq_true rfl) (Nat.zero_le _) (Nat.zero_le _) rfl rfl rfl (q := 56) rfl ?_
  refine pm_if_eq (tgt := 77) dB_isReported_56 rfl (q := 59) rfl (fun h56 => ?_) (fun h56 => ?_)
  · refine pm_iconst (x := 0) dB_isReported_77 (by decide) (q := 78) rfl ?_
    exact pm_retI hret dB_isReported_78 (by first | (rw [hc] at h56; simp [frep, h56]; done) | (rw [hc] at h56; simp [frep, h56, h70]; done))
  · refine pm_aload_n dB_isReported_59 rfl (q := 60) rfl ?_
    refine pm_get fl_B_16 dB_isReported_60 rfl rfl (q := 63) rfl ?_
    refine pm_get fl_B_173 dB_isReported_63 rfl rfl (q := 66) rfl ?_
    refine pm_iload_n dB_isReported_66 rfl (q := 67) rfl ?_
    refine pm_ialdN dB_isReported_67 rfl (by omega) (Nat.le_of_ble_eq_true rfl) (q := 68) rfl ?_
    refine pm_iload dB_isReported_68 rfl (q := 70) rfl ?_
    refine pm_icmp_ne (tgt := 77) dB_isReported_70 rfl (q := 73) rfl (fun h70 => ?_) (fun h70 => ?_)
    · refine pm_iconst (x := 0) dB_isReported_77 (by decide) (q := 78) rfl ?_
      exact pm_retI hret dB_isReported_78 (by first | (rw [hc] at h56; simp [frep, h56]; done) | (rw [hc] at h56; simp [frep, h56, h70]; done))
    · refine pm_iconst (x := 1) dB_isReported_73 (by decide) (q := 74) rfl ?_
      refine pm_goto (tgt := 78) dB_isReported_74 rfl ?_
      exact pm_retI hret dB_isReported_78 (by first | (rw [hc] at h56; simp [frep, h56]; done) | (rw [hc] at h56; simp [frep, h56, h70]; done))
set_option maxHeartbeats 4000000 in
theorem kB_isReported_1 {l : Launch} (hl : l.stackTraces = false) (d : Nat) (hd : 1 ≤ d) {pd : Int32} {si : Nat → Int32} {sa : Nat → Nat → Int32} {hv : Nat → Int32} {ha : Nat → Nat → Nat → Int32} {sl : Int32} {sc : Nat → Nat → Int32} {pl : Int32} {pa : Nat → Nat → Int32} {tl : pm_H} (I b : Nat) (hI : I < 30) (hb : b < 5) (m1 : sc 0 I = nI b) : pm_Sem l d mB_isReported [.ref 0, .int (nI I), .int 1] (cH pd si sa hv ha sl sc pl pa tl) (some (.int (frep sa sc b I 1))) (cH pd si sa hv ha sl sc pl pa tl) := by
  refine pm_sem hl mo_B_isReported ⟨_, rfl, frep_b _ _ _ _ _⟩ rfl rfl (Nat.le_of_ble_eq_true rfl) (fun K G hK hret => ?_)
  have hc : (nI I).toNatClampNeg = I := nI_clamp (by omega)
  refine pm_aload_n dB_isReported_0 rfl (q := 1) rfl ?_
  refine pm_get fl_B_35 dB_isReported_1 rfl rfl (q := 4) rfl ?_
  refine pm_get fl_B_108 dB_isReported_4 rfl rfl (q := 7) rfl ?_
  refine pm_iload_n dB_isReported_7 rfl (q := 8) rfl ?_
  refine pm_ialdN dB_isReported_8 rfl (by omega) (Nat.le_of_ble_eq_true rfl) (q := 9) rfl ?_
  refine pm_topL (y := nI b) m1 ?_
  refine pm_istore_n dB_isReported_9 (by decide) (q := 10) rfl ?_
  refine pm_aload_n dB_isReported_10 rfl (q := 11) rfl ?_
  refine pm_get fl_B_35 dB_isReported_11 rfl rfl (q := 14) rfl ?_
  refine pm_get fl_B_112 dB_isReported_14 rfl rfl (q := 17) rfl ?_
  refine pm_iload_n dB_isReported_17 rfl (q := 18) rfl ?_
  refine pm_ialdN dB_isReported_18 rfl (by omega) (Nat.le_of_ble_eq_true rfl) (q := 19) rfl ?_
  refine pm_istore dB_isReported_19 (by decide) (q := 21) rfl ?_
  refine pm_iload_n dB_isReported_21 rfl (q := 22) rfl ?_
  refine pm_look (tgt := 79) dB_isReported_22 (by decide) (off := 57) (by decide) rfl ?_
  refine pm_aload_n dB_isReported_79 rfl (q := 80) rfl ?_
  refine pm_get fl_B_35 dB_isReported_80 rfl rfl (q := 83) rfl ?_
  refine pm_iload_n dB_isReported_83 rfl (q := 84) rfl ?_
  refine pm_cV1i hK (kT_putsOn hl 0 _ (vp_in_nI hI (by omega))) mo_T_putsOn im_T_putsOn se_T_putsOn lk_B_124 dB_isReported_84 (by omega) (Nat.le_of_ble_eq_true rfl) (Nat.zero_le _) (Nat.zero_le _) rfl rfl rfl (q := 87) rfl ?_
  refine pm_if_ne (tgt := 108) dB_isReported_87 rfl (q := 90) rfl (fun h87 => ?_) (fun h87 => ?_)
  · refine pm_iconst (x := 0) dB_isReported_108 (by decide) (q := 109) rfl ?_
    exact pm_retI hret dB_isReported_109 (by first | (rw [hc] at h87; simp [frep, h87]; done) | (rw [hc] at h87; simp [frep, h87, h101]; done))
  · refine pm_aload_n dB_isReported_90 rfl (q := 91) rfl ?_
    refine pm_get fl_B_16 dB_isReported_91 rfl rfl (q := 94) rfl ?_
    refine pm_get fl_B_176 dB_isReported_94 rfl rfl (q := 97) rfl ?_
    refine pm_iload_n dB_isReported_97 rfl (q := 98) rfl ?_
    refine pm_ialdN dB_isReported_98 rfl (by omega) (Nat.le_of_ble_eq_true rfl) (q := 99) rfl ?_
    refine pm_iload dB_isReported_99 rfl (q := 101) rfl ?_
    refine pm_icmp_ne (tgt := 108) dB_isReported_101 rfl (q := 104) rfl (fun h101 => ?_) (fun h101 => ?_)
    · refine pm_iconst (x := 0) dB_isReported_108 (by decide) (q := 109) rfl ?_
      exact pm_retI hret dB_isReported_109 (by first | (rw [hc] at h87; simp [frep, h87]; done) | (rw [hc] at h87; simp [frep, h87, h101]; done))
    · refine pm_iconst (x := 1) dB_isReported_104 (by decide) (q := 105) rfl ?_
      refine pm_goto (tgt := 109) dB_isReported_105 rfl ?_
      exact pm_retI hret dB_isReported_109 (by first | (rw [hc] at h87; simp [frep, h87]; done) | (rw [hc] at h87; simp [frep, h87, h101]; done))
set_option maxHeartbeats 4000000 in
theorem kB_isReported_2 {l : Launch} (hl : l.stackTraces = false) (d : Nat) (hd : 1 ≤ d) {pd : Int32} {si : Nat → Int32} {sa : Nat → Nat → Int32} {hv : Nat → Int32} {ha : Nat → Nat → Nat → Int32} {sl : Int32} {sc : Nat → Nat → Int32} {pl : Int32} {pa : Nat → Nat → Int32} {tl : pm_H} (I b : Nat) (hI : I < 30) (hb : b < 5) (m1 : sc 0 I = nI b) : pm_Sem l d mB_isReported [.ref 0, .int (nI I), .int 2] (cH pd si sa hv ha sl sc pl pa tl) (some (.int (frep sa sc b I 2))) (cH pd si sa hv ha sl sc pl pa tl) := by
  refine pm_sem hl mo_B_isReported ⟨_, rfl, frep_b _ _ _ _ _⟩ rfl rfl (Nat.le_of_ble_eq_true rfl) (fun K G hK hret => ?_)
  have hc : (nI I).toNatClampNeg = I := nI_clamp (by omega)
  refine pm_aload_n dB_isReported_0 rfl (q := 1) rfl ?_
  refine pm_get fl_B_35 dB_isReported_1 rfl rfl (q := 4) rfl ?_
  refine pm_get fl_B_108 dB_isReported_4 rfl rfl (q := 7) rfl ?_
  refine pm_iload_n dB_isReported_7 rfl (q := 8) rfl ?_
  refine pm_ialdN dB_isReported_8 rfl (by omega) (Nat.le_of_ble_eq_true rfl) (q := 9) rfl ?_
  refine pm_topL (y := nI b) m1 ?_
  refine pm_istore_n dB_isReported_9 (by decide) (q := 10) rfl ?_
  refine pm_aload_n dB_isReported_10 rfl (q := 11) rfl ?_
  refine pm_get fl_B_35 dB_isReported_11 rfl rfl (q := 14) rfl ?_
  refine pm_get fl_B_112 dB_isReported_14 rfl rfl (q := 17) rfl ?_
  refine pm_iload_n dB_isReported_17 rfl (q := 18) rfl ?_
  refine pm_ialdN dB_isReported_18 rfl (by omega) (Nat.le_of_ble_eq_true rfl) (q := 19) rfl ?_
  refine pm_istore dB_isReported_19 (by decide) (q := 21) rfl ?_
  refine pm_iload_n dB_isReported_21 rfl (q := 22) rfl ?_
  refine pm_look (tgt := 110) dB_isReported_22 (by decide) (off := 88) (by decide) rfl ?_
  refine pm_aload_n dB_isReported_110 rfl (q := 111) rfl ?_
  refine pm_get fl_B_35 dB_isReported_111 rfl rfl (q := 114) rfl ?_
  refine pm_iload_n dB_isReported_114 rfl (q := 115) rfl ?_
  refine pm_cV1i hK (kT_putsOn hl 0 _ (vp_in_nI hI (by omega))) mo_T_putsOn im_T_putsOn se_T_putsOn lk_B_124 dB_isReported_115 (by omega) (Nat.le_of_ble_eq_true rfl) (Nat.zero_le _) (Nat.zero_le _) rfl rfl rfl (q := 118) rfl ?_
  refine pm_if_eq (tgt := 139) dB_isReported_118 rfl (q := 121) rfl (fun h118 => ?_) (fun h118 => ?_)
  · refine pm_iconst (x := 0) dB_isReported_139 (by decide) (q := 140) rfl ?_
    exact pm_retI hret dB_isReported_140 (by first | (rw [hc] at h118; simp [frep, h118]; done) | (rw [hc] at h118; simp [frep, h118, h132]; done))
  · refine pm_aload_n dB_isReported_121 rfl (q := 122) rfl ?_
    refine pm_get fl_B_16 dB_isReported_122 rfl rfl (q := 125) rfl ?_
    refine pm_get fl_B_173 dB_isReported_125 rfl rfl (q := 128) rfl ?_
    refine pm_iload_n dB_isReported_128 rfl (q := 129) rfl ?_
    refine pm_ialdN dB_isReported_129 rfl (by omega) (Nat.le_of_ble_eq_true rfl) (q := 130) rfl ?_
    refine pm_iload dB_isReported_130 rfl (q := 132) rfl ?_
    refine pm_icmp_eq (tgt := 139) dB_isReported_132 rfl (q := 135) rfl (fun h132 => ?_) (fun h132 => ?_)
    · refine pm_iconst (x := 0) dB_isReported_139 (by decide) (q := 140) rfl ?_
      exact pm_retI hret dB_isReported_140 (by first | (rw [hc] at h118; simp [frep, h118]; done) | (rw [hc] at h118; simp [frep, h118, h132]; done))
    · refine pm_iconst (x := 1) dB_isReported_135 (by decide) (q := 136) rfl ?_
      refine pm_goto (tgt := 140) dB_isReported_136 rfl ?_
      exact pm_retI hret dB_isReported_140 (by first | (rw [hc] at h118; simp [frep, h118]; done) | (rw [hc] at h118; simp [frep, h118, h132]; done))
def frc (sa sc : Nat → Nat → Int32) (bx : Nat → Nat) (q : Int32) (w : Nat) : Nat → Int32
  | 0 => 0
  | j + 1 => if sc 1 j = q ∧ ¬ frep sa sc (bx j) j w = 0 then frc sa sc bx q w j + 1 else frc sa sc bx q w j
set_option maxHeartbeats 4000000 in
theorem kB_report_0 {l : Launch} (hl : l.stackTraces = false) (d : Nat) (hd : 3 ≤ d) {pd : Int32} {si : Nat → Int32} {sa : Nat → Nat → Int32} {hv : Nat → Int32} {ha : Nat → Nat → Nat → Int32} {sl : Int32} {sc : Nat → Nat → Int32} {pl : Int32} {pa : Nat → Nat → Int32} {tl : pm_H} (q : Int32) (L : Nat) (hL0 : sl = nI L) (hL3 : L ≤ 30) (bx : Nat → Nat) (hbx : ∀ j, j < L → bx j < 5) (hm : ∀ j, j < L → sc 0 j = nI (bx j)) (k0 : ¬ fw q 0 (si 2 - 1) = 0) : pm_Sem l d mB_report [.ref 0, .int q, .int 0] (cH pd si sa hv ha sl sc pl pa tl) (some (.int (frc sa sc bx q 0 L))) (cH pd si sa hv ha sl sc pl pa tl) := by
  refine pm_sem hl mo_B_report ⟨_, rfl, rfl⟩ rfl rfl (Nat.le_of_ble_eq_true rfl) (fun K G hK hret => ?_)
  have hL : ∀ (m j : Nat), m + j = L → pm_Go mB_report K G 33 [some (.ref 0), some (.int q), some (.int 0), some (.int (frc sa sc bx q 0 j)), some (.int (nI j))] [] (cH pd si sa hv ha sl sc pl pa tl) 0 0 := by
    intro m
    induction m with
    | zero =>
      intro j hj
      have hj : j = L := by omega
      subst hj
      refine pm_iload dB_report_33 rfl (q := 35) rfl ?_
      refine pm_aload_n dB_report_35 rfl (q := 36) rfl ?_
      refine pm_get fl_B_35 dB_report_36 rfl rfl (q := 39) rfl ?_
      refine pm_get fl_B_101 dB_report_39 rfl rfl (q := 42) rfl ?_
      refine pm_icmp_ge (tgt := 78) dB_report_42 rfl (q := 45) rfl (fun _ => ?_) (fun z => absurd (by rw [hL0]; exact nI_le (Nat.le_refl _) (by omega)) z)
      refine pm_iload_n dB_report_78 rfl (q := 79) rfl ?_
      exact pm_retI hret dB_report_79 rfl
    | succ m ih =>
      intro j hj
      have hjL : j < L := by omega
      refine pm_iload dB_report_33 rfl (q := 35) rfl ?_
      refine pm_aload_n dB_report_35 rfl (q := 36) rfl ?_
      refine pm_get fl_B_35 dB_report_36 rfl rfl (q := 39) rfl ?_
      refine pm_get fl_B_101 dB_report_39 rfl rfl (q := 42) rfl ?_
      refine pm_icmp_ge (tgt := 78) dB_report_42 rfl (q := 45) rfl (fun z => absurd z (by rw [hL0]; exact nI_ge hjL (by omega))) (fun _ => ?_)
      refine pm_aload_n dB_report_45 rfl (q := 46) rfl ?_
      refine pm_get fl_B_35 dB_report_46 rfl rfl (q := 49) rfl ?_
      refine pm_get fl_B_112 dB_report_49 rfl rfl (q := 52) rfl ?_
      refine pm_iload dB_report_52 rfl (q := 54) rfl ?_
      refine pm_ialdN dB_report_54 rfl (by omega) (Nat.le_of_ble_eq_true rfl) (q := 55) rfl ?_
      refine pm_iload_n dB_report_55 rfl (q := 56) rfl ?_
      refine pm_icmp_ne (tgt := 72) dB_report_56 rfl (q := 59) rfl (fun h56 => ?_) (fun h56 => ?_)
      · refine pm_iincL dB_report_72 rfl (by decide) (y := nI (j + 1)) (by rw [nI_succ]; rfl) (q := 75) rfl ?_
        refine pm_goto (tgt := 33) dB_report_75 rfl ?_
        refine pm_loc (ls' := [some (.ref 0), some (.int q), some (.int 0), some (.int (frc sa sc bx q 0 (j + 1))), some (.int (nI (j + 1)))]) ?_ (ih (j + 1) (by omega))
        first
        | (rw [show frc sa sc bx q 0 (j + 1) = frc sa sc bx q 0 j from if_neg (fun z => h56 z.1)]; rfl)
        | (rw [show frc sa sc bx q 0 (j + 1) = frc sa sc bx q 0 j from if_neg (fun z => z.2 h66)]; rfl)
        | (rw [show frc sa sc bx q 0 (j + 1) = frc sa sc bx q 0 j + 1 from if_pos ⟨h56, h66⟩]; rfl)
      · refine pm_aload_n dB_report_59 rfl (q := 60) rfl ?_
        refine pm_iload dB_report_60 rfl (q := 62) rfl ?_
        refine pm_iload_n dB_report_62 rfl (q := 63) rfl ?_
        refine pm_cV2i hK (kB_isReported_0 hl 1 (Nat.le_refl _) j (bx j) (by omega) (hbx j hjL) (hm j hjL)) mo_B_isReported im_B_isReported se_B_isReported lk_B_169 dB_report_63 (by omega) (Nat.le_of_ble_eq_true rfl) (Nat.zero_le _) (Nat.zero_le _) rfl rfl rfl (q := 66) rfl ?_
        refine pm_if_eq (tgt := 72) dB_report_66 rfl (q := 69) rfl (fun h66 => ?_) (fun h66 => ?_)
        · refine pm_iincL dB_report_72 rfl (by decide) (y := nI (j + 1)) (by rw [nI_succ]; rfl) (q := 75) rfl ?_
          refine pm_goto (tgt := 33) dB_report_75 rfl ?_
          refine pm_loc (ls' := [some (.ref 0), some (.int q), some (.int 0), some (.int (frc sa sc bx q 0 (j + 1))), some (.int (nI (j + 1)))]) ?_ (ih (j + 1) (by omega))
          first
          | (rw [show frc sa sc bx q 0 (j + 1) = frc sa sc bx q 0 j from if_neg (fun z => h56 z.1)]; rfl)
          | (rw [show frc sa sc bx q 0 (j + 1) = frc sa sc bx q 0 j from if_neg (fun z => z.2 h66)]; rfl)
          | (rw [show frc sa sc bx q 0 (j + 1) = frc sa sc bx q 0 j + 1 from if_pos ⟨h56, h66⟩]; rfl)
        · refine pm_iinc dB_report_69 rfl (by decide) (c0 := 1) (by decide) (q := 72) rfl ?_
          refine pm_iincL dB_report_72 rfl (by decide) (y := nI (j + 1)) (by rw [nI_succ]; rfl) (q := 75) rfl ?_
          refine pm_goto (tgt := 33) dB_report_75 rfl ?_
          refine pm_loc (ls' := [some (.ref 0), some (.int q), some (.int 0), some (.int (frc sa sc bx q 0 (j + 1))), some (.int (nI (j + 1)))]) ?_ (ih (j + 1) (by omega))
          first
          | (rw [show frc sa sc bx q 0 (j + 1) = frc sa sc bx q 0 j from if_neg (fun z => h56 z.1)]; rfl)
          | (rw [show frc sa sc bx q 0 (j + 1) = frc sa sc bx q 0 j from if_neg (fun z => z.2 h66)]; rfl)
          | (rw [show frc sa sc bx q 0 (j + 1) = frc sa sc bx q 0 j + 1 from if_pos ⟨h56, h66⟩]; rfl)
  refine pm_aload_n dB_report_0 rfl (q := 1) rfl ?_
  refine pm_get fl_B_16 dB_report_1 rfl rfl (q := 4) rfl ?_
  refine pm_iload_n dB_report_4 rfl (q := 5) rfl ?_
  refine pm_cV1i hK (kS_hasPort hl 1 (Nat.le_refl _) _) mo_S_hasPort im_S_hasPort se_S_hasPort lk_B_65 dB_report_5 (by omega) (Nat.le_of_ble_eq_true rfl) (Nat.zero_le _) (Nat.zero_le _) rfl rfl rfl (q := 8) rfl ?_
  refine pm_if_eq (tgt := 24) dB_report_8 rfl (q := 11) rfl (fun z => absurd z k0) (fun _ => ?_)
  refine pm_iload_n dB_report_11 rfl (q := 12) rfl ?_
  refine pm_iconst (x := 0) dB_report_12 (by decide) (q := 13) rfl ?_
  refine pm_iconst (x := 2) dB_report_13 (by decide) (q := 14) rfl ?_
  refine pm_cS3i hK (kB_within hl 0 _ _ _ _) mo_B_within st_B_within lk_B_46 dB_report_14 (by omega) (Nat.le_of_ble_eq_true rfl) (Nat.zero_le _) (Nat.zero_le _) (q := 17) rfl ?_
  refine pm_if_eq (tgt := 24) dB_report_17 rfl (q := 20) rfl (fun z => absurd z (by decide)) (fun _ => ?_)
  refine pm_iconst (x := 1) dB_report_20 (by decide) (q := 21) rfl ?_
  refine pm_goto (tgt := 25) dB_report_21 rfl ?_
  refine pm_cS1v hK (kB_require_ok hl 0 _ (by decide) _) mo_B_require st_B_require lk_B_50 dB_report_25 (by omega) (Nat.le_of_ble_eq_true rfl) (Nat.zero_le _) (Nat.zero_le _) (q := 28) rfl ?_
  refine pm_iconst (x := 0) dB_report_28 (by decide) (q := 29) rfl ?_
  refine pm_istore_n dB_report_29 (by decide) (q := 30) rfl ?_
  refine pm_iconst (x := 0) dB_report_30 (by decide) (q := 31) rfl ?_
  refine pm_istore dB_report_31 (by decide) (q := 33) rfl ?_
  exact hL L 0 (by omega)
set_option maxHeartbeats 4000000 in
theorem kB_report_1 {l : Launch} (hl : l.stackTraces = false) (d : Nat) (hd : 3 ≤ d) {pd : Int32} {si : Nat → Int32} {sa : Nat → Nat → Int32} {hv : Nat → Int32} {ha : Nat → Nat → Nat → Int32} {sl : Int32} {sc : Nat → Nat → Int32} {pl : Int32} {pa : Nat → Nat → Int32} {tl : pm_H} (q : Int32) (L : Nat) (hL0 : sl = nI L) (hL3 : L ≤ 30) (bx : Nat → Nat) (hbx : ∀ j, j < L → bx j < 5) (hm : ∀ j, j < L → sc 0 j = nI (bx j)) (k0 : ¬ fw q 0 (si 2 - 1) = 0) : pm_Sem l d mB_report [.ref 0, .int q, .int 1] (cH pd si sa hv ha sl sc pl pa tl) (some (.int (frc sa sc bx q 1 L))) (cH pd si sa hv ha sl sc pl pa tl) := by
  refine pm_sem hl mo_B_report ⟨_, rfl, rfl⟩ rfl rfl (Nat.le_of_ble_eq_true rfl) (fun K G hK hret => ?_)
  have hL : ∀ (m j : Nat), m + j = L → pm_Go mB_report K G 33 [some (.ref 0), some (.int q), some (.int 1), some (.int (frc sa sc bx q 1 j)), some (.int (nI j))] [] (cH pd si sa hv ha sl sc pl pa tl) 0 0 := by
    intro m
    induction m with
    | zero =>
      intro j hj
      have hj : j = L := by omega
      subst hj
      refine pm_iload dB_report_33 rfl (q := 35) rfl ?_
      refine pm_aload_n dB_report_35 rfl (q := 36) rfl ?_
      refine pm_get fl_B_35 dB_report_36 rfl rfl (q := 39) rfl ?_
      refine pm_get fl_B_101 dB_report_39 rfl rfl (q := 42) rfl ?_
      refine pm_icmp_ge (tgt := 78) dB_report_42 rfl (q := 45) rfl (fun _ => ?_) (fun z => absurd (by rw [hL0]; exact nI_le (Nat.le_refl _) (by omega)) z)
      refine pm_iload_n dB_report_78 rfl (q := 79) rfl ?_
      exact pm_retI hret dB_report_79 rfl
    | succ m ih =>
      intro j hj
      have hjL : j < L := by omega
      refine pm_iload dB_report_33 rfl (q := 35) rfl ?_
      refine pm_aload_n dB_report_35 rfl (q := 36) rfl ?_
      refine pm_get fl_B_35 dB_report_36 rfl rfl (q := 39) rfl ?_
      refine pm_get fl_B_101 dB_report_39 rfl rfl (q := 42) rfl ?_
      refine pm_icmp_ge (tgt := 78) dB_report_42 rfl (q := 45) rfl (fun z => absurd z (by rw [hL0]; exact nI_ge hjL (by omega))) (fun _ => ?_)
      refine pm_aload_n dB_report_45 rfl (q := 46) rfl ?_
      refine pm_get fl_B_35 dB_report_46 rfl rfl (q := 49) rfl ?_
      refine pm_get fl_B_112 dB_report_49 rfl rfl (q := 52) rfl ?_
      refine pm_iload dB_report_52 rfl (q := 54) rfl ?_
      refine pm_ialdN dB_report_54 rfl (by omega) (Nat.le_of_ble_eq_true rfl) (q := 55) rfl ?_
      refine pm_iload_n dB_report_55 rfl (q := 56) rfl ?_
      refine pm_icmp_ne (tgt := 72) dB_report_56 rfl (q := 59) rfl (fun h56 => ?_) (fun h56 => ?_)
      · refine pm_iincL dB_report_72 rfl (by decide) (y := nI (j + 1)) (by rw [nI_succ]; rfl) (q := 75) rfl ?_
        refine pm_goto (tgt := 33) dB_report_75 rfl ?_
        refine pm_loc (ls' := [some (.ref 0), some (.int q), some (.int 1), some (.int (frc sa sc bx q 1 (j + 1))), some (.int (nI (j + 1)))]) ?_ (ih (j + 1) (by omega))
        first
        | (rw [show frc sa sc bx q 1 (j + 1) = frc sa sc bx q 1 j from if_neg (fun z => h56 z.1)]; rfl)
        | (rw [show frc sa sc bx q 1 (j + 1) = frc sa sc bx q 1 j from if_neg (fun z => z.2 h66)]; rfl)
        | (rw [show frc sa sc bx q 1 (j + 1) = frc sa sc bx q 1 j + 1 from if_pos ⟨h56, h66⟩]; rfl)
      · refine pm_aload_n dB_report_59 rfl (q := 60) rfl ?_
        refine pm_iload dB_report_60 rfl (q := 62) rfl ?_
        refine pm_iload_n dB_report_62 rfl (q := 63) rfl ?_
        refine pm_cV2i hK (kB_isReported_1 hl 1 (Nat.le_refl _) j (bx j) (by omega) (hbx j hjL) (hm j hjL)) mo_B_isReported im_B_isReported se_B_isReported lk_B_169 dB_report_63 (by omega) (Nat.le_of_ble_eq_true rfl) (Nat.zero_le _) (Nat.zero_le _) rfl rfl rfl (q := 66) rfl ?_
        refine pm_if_eq (tgt := 72) dB_report_66 rfl (q := 69) rfl (fun h66 => ?_) (fun h66 => ?_)
        · refine pm_iincL dB_report_72 rfl (by decide) (y := nI (j + 1)) (by rw [nI_succ]; rfl) (q := 75) rfl ?_
          refine pm_goto (tgt := 33) dB_report_75 rfl ?_
          refine pm_loc (ls' := [some (.ref 0), some (.int q), some (.int 1), some (.int (frc sa sc bx q 1 (j + 1))), some (.int (nI (j + 1)))]) ?_ (ih (j + 1) (by omega))
          first
          | (rw [show frc sa sc bx q 1 (j + 1) = frc sa sc bx q 1 j from if_neg (fun z => h56 z.1)]; rfl)
          | (rw [show frc sa sc bx q 1 (j + 1) = frc sa sc bx q 1 j from if_neg (fun z => z.2 h66)]; rfl)
          | (rw [show frc sa sc bx q 1 (j + 1) = frc sa sc bx q 1 j + 1 from if_pos ⟨h56, h66⟩]; rfl)
        · refine pm_iinc dB_report_69 rfl (by decide) (c0 := 1) (by decide) (q := 72) rfl ?_
          refine pm_iincL dB_report_72 rfl (by decide) (y := nI (j + 1)) (by rw [nI_succ]; rfl) (q := 75) rfl ?_
          refine pm_goto (tgt := 33) dB_report_75 rfl ?_
          refine pm_loc (ls' := [some (.ref 0), some (.int q), some (.int 1), some (.int (frc sa sc bx q 1 (j + 1))), some (.int (nI (j + 1)))]) ?_ (ih (j + 1) (by omega))
          first
          | (rw [show frc sa sc bx q 1 (j + 1) = frc sa sc bx q 1 j from if_neg (fun z => h56 z.1)]; rfl)
          | (rw [show frc sa sc bx q 1 (j + 1) = frc sa sc bx q 1 j from if_neg (fun z => z.2 h66)]; rfl)
          | (rw [show frc sa sc bx q 1 (j + 1) = frc sa sc bx q 1 j + 1 from if_pos ⟨h56, h66⟩]; rfl)
  refine pm_aload_n dB_report_0 rfl (q := 1) rfl ?_
  refine pm_get fl_B_16 dB_report_1 rfl rfl (q := 4) rfl ?_
  refine pm_iload_n dB_report_4 rfl (q := 5) rfl ?_
  refine pm_cV1i hK (kS_hasPort hl 1 (Nat.le_refl _) _) mo_S_hasPort im_S_hasPort se_S_hasPort lk_B_65 dB_report_5 (by omega) (Nat.le_of_ble_eq_true rfl) (Nat.zero_le _) (Nat.zero_le _) rfl rfl rfl (q := 8) rfl ?_
  refine pm_if_eq (tgt := 24) dB_report_8 rfl (q := 11) rfl (fun z => absurd z k0) (fun _ => ?_)
  refine pm_iload_n dB_report_11 rfl (q := 12) rfl ?_
  refine pm_iconst (x := 0) dB_report_12 (by decide) (q := 13) rfl ?_
  refine pm_iconst (x := 2) dB_report_13 (by decide) (q := 14) rfl ?_
  refine pm_cS3i hK (kB_within hl 0 _ _ _ _) mo_B_within st_B_within lk_B_46 dB_report_14 (by omega) (Nat.le_of_ble_eq_true rfl) (Nat.zero_le _) (Nat.zero_le _) (q := 17) rfl ?_
  refine pm_if_eq (tgt := 24) dB_report_17 rfl (q := 20) rfl (fun z => absurd z (by decide)) (fun _ => ?_)
  refine pm_iconst (x := 1) dB_report_20 (by decide) (q := 21) rfl ?_
  refine pm_goto (tgt := 25) dB_report_21 rfl ?_
  refine pm_cS1v hK (kB_require_ok hl 0 _ (by decide) _) mo_B_require st_B_require lk_B_50 dB_report_25 (by omega) (Nat.le_of_ble_eq_true rfl) (Nat.zero_le _) (Nat.zero_le _) (q := 28) rfl ?_
  refine pm_iconst (x := 0) dB_report_28 (by decide) (q := 29) rfl ?_
  refine pm_istore_n dB_report_29 (by decide) (q := 30) rfl ?_
  refine pm_iconst (x := 0) dB_report_30 (by decide) (q := 31) rfl ?_
  refine pm_istore dB_report_31 (by decide) (q := 33) rfl ?_
  exact hL L 0 (by omega)
set_option maxHeartbeats 4000000 in
theorem kB_report_2 {l : Launch} (hl : l.stackTraces = false) (d : Nat) (hd : 3 ≤ d) {pd : Int32} {si : Nat → Int32} {sa : Nat → Nat → Int32} {hv : Nat → Int32} {ha : Nat → Nat → Nat → Int32} {sl : Int32} {sc : Nat → Nat → Int32} {pl : Int32} {pa : Nat → Nat → Int32} {tl : pm_H} (q : Int32) (L : Nat) (hL0 : sl = nI L) (hL3 : L ≤ 30) (bx : Nat → Nat) (hbx : ∀ j, j < L → bx j < 5) (hm : ∀ j, j < L → sc 0 j = nI (bx j)) (k0 : ¬ fw q 0 (si 2 - 1) = 0) : pm_Sem l d mB_report [.ref 0, .int q, .int 2] (cH pd si sa hv ha sl sc pl pa tl) (some (.int (frc sa sc bx q 2 L))) (cH pd si sa hv ha sl sc pl pa tl) := by
  refine pm_sem hl mo_B_report ⟨_, rfl, rfl⟩ rfl rfl (Nat.le_of_ble_eq_true rfl) (fun K G hK hret => ?_)
  have hL : ∀ (m j : Nat), m + j = L → pm_Go mB_report K G 33 [some (.ref 0), some (.int q), some (.int 2), some (.int (frc sa sc bx q 2 j)), some (.int (nI j))] [] (cH pd si sa hv ha sl sc pl pa tl) 0 0 := by
    intro m
    induction m with
    | zero =>
      intro j hj
      have hj : j = L := by omega
      subst hj
      refine pm_iload dB_report_33 rfl (q := 35) rfl ?_
      refine pm_aload_n dB_report_35 rfl (q := 36) rfl ?_
      refine pm_get fl_B_35 dB_report_36 rfl rfl (q := 39) rfl ?_
      refine pm_get fl_B_101 dB_report_39 rfl rfl (q := 42) rfl ?_
      refine pm_icmp_ge (tgt := 78) dB_report_42 rfl (q := 45) rfl (fun _ => ?_) (fun z => absurd (by rw [hL0]; exact nI_le (Nat.le_refl _) (by omega)) z)
      refine pm_iload_n dB_report_78 rfl (q := 79) rfl ?_
      exact pm_retI hret dB_report_79 rfl
    | succ m ih =>
      intro j hj
      have hjL : j < L := by omega
      refine pm_iload dB_report_33 rfl (q := 35) rfl ?_
      refine pm_aload_n dB_report_35 rfl (q := 36) rfl ?_
      refine pm_get fl_B_35 dB_report_36 rfl rfl (q := 39) rfl ?_
      refine pm_get fl_B_101 dB_report_39 rfl rfl (q := 42) rfl ?_
      refine pm_icmp_ge (tgt := 78) dB_report_42 rfl (q := 45) rfl (fun z => absurd z (by rw [hL0]; exact nI_ge hjL (by omega))) (fun _ => ?_)
      refine pm_aload_n dB_report_45 rfl (q := 46) rfl ?_
      refine pm_get fl_B_35 dB_report_46 rfl rfl (q := 49) rfl ?_
      refine pm_get fl_B_112 dB_report_49 rfl rfl (q := 52) rfl ?_
      refine pm_iload dB_report_52 rfl (q := 54) rfl ?_
      refine pm_ialdN dB_report_54 rfl (by omega) (Nat.le_of_ble_eq_true rfl) (q := 55) rfl ?_
      refine pm_iload_n dB_report_55 rfl (q := 56) rfl ?_
      refine pm_icmp_ne (tgt := 72) dB_report_56 rfl (q := 59) rfl (fun h56 => ?_) (fun h56 => ?_)
      · refine pm_iincL dB_report_72 rfl (by decide) (y := nI (j + 1)) (by rw [nI_succ]; rfl) (q := 75) rfl ?_
        refine pm_goto (tgt := 33) dB_report_75 rfl ?_
        refine pm_loc (ls' := [some (.ref 0), some (.int q), some (.int 2), some (.int (frc sa sc bx q 2 (j + 1))), some (.int (nI (j + 1)))]) ?_ (ih (j + 1) (by omega))
        first
        | (rw [show frc sa sc bx q 2 (j + 1) = frc sa sc bx q 2 j from if_neg (fun z => h56 z.1)]; rfl)
        | (rw [show frc sa sc bx q 2 (j + 1) = frc sa sc bx q 2 j from if_neg (fun z => z.2 h66)]; rfl)
        | (rw [show frc sa sc bx q 2 (j + 1) = frc sa sc bx q 2 j + 1 from if_pos ⟨h56, h66⟩]; rfl)
      · refine pm_aload_n dB_report_59 rfl (q := 60) rfl ?_
        refine pm_iload dB_report_60 rfl (q := 62) rfl ?_
        refine pm_iload_n dB_report_62 rfl (q := 63) rfl ?_
        refine pm_cV2i hK (kB_isReported_2 hl 1 (Nat.le_refl _) j (bx j) (by omega) (hbx j hjL) (hm j hjL)) mo_B_isReported im_B_isReported se_B_isReported lk_B_169 dB_report_63 (by omega) (Nat.le_of_ble_eq_true rfl) (Nat.zero_le _) (Nat.zero_le _) rfl rfl rfl (q := 66) rfl ?_
        refine pm_if_eq (tgt := 72) dB_report_66 rfl (q := 69) rfl (fun h66 => ?_) (fun h66 => ?_)
        · refine pm_iincL dB_report_72 rfl (by decide) (y := nI (j + 1)) (by rw [nI_succ]; rfl) (q := 75) rfl ?_
          refine pm_goto (tgt := 33) dB_report_75 rfl ?_
          refine pm_loc (ls' := [some (.ref 0), some (.int q), some (.int 2), some (.int (frc sa sc bx q 2 (j + 1))), some (.int (nI (j + 1)))]) ?_ (ih (j + 1) (by omega))
          first
          | (rw [show frc sa sc bx q 2 (j + 1) = frc sa sc bx q 2 j from if_neg (fun z => h56 z.1)]; rfl)
          | (rw [show frc sa sc bx q 2 (j + 1) = frc sa sc bx q 2 j from if_neg (fun z => z.2 h66)]; rfl)
          | (rw [show frc sa sc bx q 2 (j + 1) = frc sa sc bx q 2 j + 1 from if_pos ⟨h56, h66⟩]; rfl)
        · refine pm_iinc dB_report_69 rfl (by decide) (c0 := 1) (by decide) (q := 72) rfl ?_
          refine pm_iincL dB_report_72 rfl (by decide) (y := nI (j + 1)) (by rw [nI_succ]; rfl) (q := 75) rfl ?_
          refine pm_goto (tgt := 33) dB_report_75 rfl ?_
          refine pm_loc (ls' := [some (.ref 0), some (.int q), some (.int 2), some (.int (frc sa sc bx q 2 (j + 1))), some (.int (nI (j + 1)))]) ?_ (ih (j + 1) (by omega))
          first
          | (rw [show frc sa sc bx q 2 (j + 1) = frc sa sc bx q 2 j from if_neg (fun z => h56 z.1)]; rfl)
          | (rw [show frc sa sc bx q 2 (j + 1) = frc sa sc bx q 2 j from if_neg (fun z => z.2 h66)]; rfl)
          | (rw [show frc sa sc bx q 2 (j + 1) = frc sa sc bx q 2 j + 1 from if_pos ⟨h56, h66⟩]; rfl)
  refine pm_aload_n dB_report_0 rfl (q := 1) rfl ?_
  refine pm_get fl_B_16 dB_report_1 rfl rfl (q := 4) rfl ?_
  refine pm_iload_n dB_report_4 rfl (q := 5) rfl ?_
  refine pm_cV1i hK (kS_hasPort hl 1 (Nat.le_refl _) _) mo_S_hasPort im_S_hasPort se_S_hasPort lk_B_65 dB_report_5 (by omega) (Nat.le_of_ble_eq_true rfl) (Nat.zero_le _) (Nat.zero_le _) rfl rfl rfl (q := 8) rfl ?_
  refine pm_if_eq (tgt := 24) dB_report_8 rfl (q := 11) rfl (fun z => absurd z k0) (fun _ => ?_)
  refine pm_iload_n dB_report_11 rfl (q := 12) rfl ?_
  refine pm_iconst (x := 0) dB_report_12 (by decide) (q := 13) rfl ?_
  refine pm_iconst (x := 2) dB_report_13 (by decide) (q := 14) rfl ?_
  refine pm_cS3i hK (kB_within hl 0 _ _ _ _) mo_B_within st_B_within lk_B_46 dB_report_14 (by omega) (Nat.le_of_ble_eq_true rfl) (Nat.zero_le _) (Nat.zero_le _) (q := 17) rfl ?_
  refine pm_if_eq (tgt := 24) dB_report_17 rfl (q := 20) rfl (fun z => absurd z (by decide)) (fun _ => ?_)
  refine pm_iconst (x := 1) dB_report_20 (by decide) (q := 21) rfl ?_
  refine pm_goto (tgt := 25) dB_report_21 rfl ?_
  refine pm_cS1v hK (kB_require_ok hl 0 _ (by decide) _) mo_B_require st_B_require lk_B_50 dB_report_25 (by omega) (Nat.le_of_ble_eq_true rfl) (Nat.zero_le _) (Nat.zero_le _) (q := 28) rfl ?_
  refine pm_iconst (x := 0) dB_report_28 (by decide) (q := 29) rfl ?_
  refine pm_istore_n dB_report_29 (by decide) (q := 30) rfl ?_
  refine pm_iconst (x := 0) dB_report_30 (by decide) (q := 31) rfl ?_
  refine pm_istore dB_report_31 (by decide) (q := 33) rfl ?_
  exact hL L 0 (by omega)
set_option maxHeartbeats 4000000 in
theorem kB_report_no {l : Launch} (hl : l.stackTraces = false) (d : Nat) (hd : 7 ≤ d) {pd : Int32} {si : Nat → Int32} {sa : Nat → Nat → Int32} {hv : Nat → Int32} {ha : Nat → Nat → Nat → Int32} {sl : Int32} {sc : Nat → Nat → Int32} {pl : Int32} {pa : Nat → Nat → Int32} {tl : pm_H} (q w : Int32) (k0 : (if ¬ fw q 0 (si 2 - 1) = 0 ∧ ¬ fw w 0 2 = 0 then (1 : Int32) else 0) = 0) : pm_SemX l d mB_report [.ref 0, .int q, .int w] (cH pd si sa hv ha sl sc pl pa tl) "java/lang/IllegalArgumentException" (cH pd si sa hv ha sl sc pl pa tl) := by
  refine pm_semX hl mo_B_report rfl rfl (Nat.le_of_ble_eq_true rfl) ?_
  have hK := pm_KX_Kd (l := l) (d := d) (h0 := (cH pd si sa hv ha sl sc pl pa tl))
  have hJ : pm_Go mB_report (pm_KX l d (cH pd si sa hv ha sl sc pl pa tl)) (pm_GX (cH pd si sa hv ha sl sc pl pa tl) "java/lang/IllegalArgumentException" (cH pd si sa hv ha sl sc pl pa tl)) 25 [some (.ref 0), some (.int q), some (.int w), none, none] [.int (if ¬ fw q 0 (si 2 - 1) = 0 ∧ ¬ fw w 0 2 = 0 then (1 : Int32) else 0)] (cH pd si sa hv ha sl sc pl pa tl) 0 0 := by
    exact pm_xS (kB_require_no hl 6 (Nat.le_refl _) _ k0 _) mo_B_require st_B_require (pm_in2 (j := 116) rfl rfl) rfl dB_report_25 (by omega) rfl rfl (Nat.le_of_ble_eq_true rfl)
  refine pm_aload_n dB_report_0 rfl (q := 1) rfl ?_
  refine pm_get fl_B_16 dB_report_1 rfl rfl (q := 4) rfl ?_
  refine pm_iload_n dB_report_4 rfl (q := 5) rfl ?_
  refine pm_cV1i hK (kS_hasPort hl 1 (Nat.le_refl _) _) mo_S_hasPort im_S_hasPort se_S_hasPort lk_B_65 dB_report_5 (by omega) (Nat.le_of_ble_eq_true rfl) (Nat.zero_le _) (Nat.zero_le _) rfl rfl rfl (q := 8) rfl ?_
  refine pm_if_eq (tgt := 24) dB_report_8 rfl (q := 11) rfl (fun h8 => ?_) (fun h8 => ?_)
  · refine pm_iconst (x := 0) dB_report_24 (by decide) (q := 25) rfl ?_
    refine pm_topL (y := (if ¬ fw q 0 (si 2 - 1) = 0 ∧ ¬ fw w 0 2 = 0 then (1 : Int32) else 0)) (by first | (simp [h8]; done) | (simp [h17]; done) | (simp [h8, h17]; done)) ?_
    exact hJ
  · refine pm_iload_n dB_report_11 rfl (q := 12) rfl ?_
    refine pm_iconst (x := 0) dB_report_12 (by decide) (q := 13) rfl ?_
    refine pm_iconst (x := 2) dB_report_13 (by decide) (q := 14) rfl ?_
    refine pm_cS3i hK (kB_within hl 0 _ _ _ _) mo_B_within st_B_within lk_B_46 dB_report_14 (by omega) (Nat.le_of_ble_eq_true rfl) (Nat.zero_le _) (Nat.zero_le _) (q := 17) rfl ?_
    refine pm_if_eq (tgt := 24) dB_report_17 rfl (q := 20) rfl (fun h17 => ?_) (fun h17 => ?_)
    · refine pm_iconst (x := 0) dB_report_24 (by decide) (q := 25) rfl ?_
      refine pm_topL (y := (if ¬ fw q 0 (si 2 - 1) = 0 ∧ ¬ fw w 0 2 = 0 then (1 : Int32) else 0)) (by first | (simp [h8]; done) | (simp [h17]; done) | (simp [h8, h17]; done)) ?_
      exact hJ
    · refine pm_iconst (x := 1) dB_report_20 (by decide) (q := 21) rfl ?_
      refine pm_goto (tgt := 25) dB_report_21 rfl ?_
      refine pm_topL (y := (if ¬ fw q 0 (si 2 - 1) = 0 ∧ ¬ fw w 0 2 = 0 then (1 : Int32) else 0)) (by first | (simp [h8]; done) | (simp [h17]; done) | (simp [h8, h17]; done)) ?_
      exact hJ
set_option maxHeartbeats 4000000 in
theorem kB_moment_0 {l : Launch} (hl : l.stackTraces = false) (d : Nat) {pd : Int32} {si : Nat → Int32} {sa : Nat → Nat → Int32} {hv : Nat → Int32} {ha : Nat → Nat → Nat → Int32} {sl : Int32} {sc : Nat → Nat → Int32} {pl : Int32} {pa : Nat → Nat → Int32} {tl : pm_H} : pm_Sem l d mB_moment [.ref 0, .int 0] (cH pd si sa hv ha sl sc pl pa tl) (some (.int (hv 0))) (cH pd si sa hv ha sl sc pl pa tl) := by
  refine pm_sem hl mo_B_moment ⟨_, rfl, rfl⟩ rfl rfl (Nat.le_of_ble_eq_true rfl) (fun K G hK hret => ?_)
  refine pm_iload_n dB_moment_0 rfl (q := 1) rfl ?_
  refine pm_tabIn (tgt := 40) dB_moment_1 (by decide) (by decide) (off := 39) (by decide) rfl ?_
  refine pm_aload_n dB_moment_40 rfl (q := 41) rfl ?_
  refine pm_get fl_B_25 dB_moment_41 rfl rfl (q := 44) rfl ?_
  refine pm_get fl_B_141 dB_moment_44 rfl rfl (q := 47) rfl ?_
  exact pm_retI hret dB_moment_47 rfl
set_option maxHeartbeats 4000000 in
theorem kB_moment_1 {l : Launch} (hl : l.stackTraces = false) (d : Nat) (hd : 1 ≤ d) {pd : Int32} {si : Nat → Int32} {sa : Nat → Nat → Int32} {hv : Nat → Int32} {ha : Nat → Nat → Nat → Int32} {sl : Int32} {sc : Nat → Nat → Int32} {pl : Int32} {pa : Nat → Nat → Int32} {tl : pm_H} {S : Nat} (hs : si 0 = nI S) (hS3 : S ≤ 3) : pm_Sem l d mB_moment [.ref 0, .int 1] (cH pd si sa hv ha sl sc pl pa tl) (some (.int (fsl si (ha 0 2) S))) (cH pd si sa hv ha sl sc pl pa tl) := by
  refine pm_sem hl mo_B_moment ⟨_, rfl, rfl⟩ rfl rfl (Nat.le_of_ble_eq_true rfl) (fun K G hK hret => ?_)
  refine pm_iload_n dB_moment_0 rfl (q := 1) rfl ?_
  refine pm_tabIn (tgt := 48) dB_moment_1 (by decide) (by decide) (off := 47) (by decide) rfl ?_
  refine pm_aload_n dB_moment_48 rfl (q := 49) rfl ?_
  refine pm_get fl_B_25 dB_moment_49 rfl rfl (q := 52) rfl ?_
  refine pm_cV0i hK (kH_signedList hl 0 cH_hold0 hs hS3) mo_H_signedList im_H_signedList se_H_signedList lk_B_144 dB_moment_52 (by omega) (Nat.le_of_ble_eq_true rfl) (Nat.zero_le _) (Nat.zero_le _) rfl rfl rfl (q := 55) rfl ?_
  exact pm_retI hret dB_moment_55 rfl
set_option maxHeartbeats 4000000 in
theorem kB_moment_2 {l : Launch} (hl : l.stackTraces = false) (d : Nat) {pd : Int32} {si : Nat → Int32} {sa : Nat → Nat → Int32} {hv : Nat → Int32} {ha : Nat → Nat → Nat → Int32} {sl : Int32} {sc : Nat → Nat → Int32} {pl : Int32} {pa : Nat → Nat → Int32} {tl : pm_H} : pm_Sem l d mB_moment [.ref 0, .int 2] (cH pd si sa hv ha sl sc pl pa tl) (some (.int (ha 0 2 0))) (cH pd si sa hv ha sl sc pl pa tl) := by
  refine pm_sem hl mo_B_moment ⟨_, rfl, rfl⟩ rfl rfl (Nat.le_of_ble_eq_true rfl) (fun K G hK hret => ?_)
  refine pm_iload_n dB_moment_0 rfl (q := 1) rfl ?_
  refine pm_tabIn (tgt := 56) dB_moment_1 (by decide) (by decide) (off := 55) (by decide) rfl ?_
  refine pm_aload_n dB_moment_56 rfl (q := 57) rfl ?_
  refine pm_get fl_B_25 dB_moment_57 rfl rfl (q := 60) rfl ?_
  refine pm_get fl_B_147 dB_moment_60 rfl rfl (q := 63) rfl ?_
  refine pm_iload_n dB_moment_63 rfl (q := 64) rfl ?_
  refine pm_iconst (x := 2) dB_moment_64 (by decide) (q := 65) rfl ?_
  refine pm_isub dB_moment_65 (q := 66) rfl ?_
  refine pm_topL (y := 0) (by decide) ?_
  refine pm_iald dB_moment_66 rfl (by unfold vp_in; decide) (q := 67) rfl ?_
  exact pm_retI hret dB_moment_67 rfl
set_option maxHeartbeats 4000000 in
theorem kB_moment_3 {l : Launch} (hl : l.stackTraces = false) (d : Nat) {pd : Int32} {si : Nat → Int32} {sa : Nat → Nat → Int32} {hv : Nat → Int32} {ha : Nat → Nat → Nat → Int32} {sl : Int32} {sc : Nat → Nat → Int32} {pl : Int32} {pa : Nat → Nat → Int32} {tl : pm_H} : pm_Sem l d mB_moment [.ref 0, .int 3] (cH pd si sa hv ha sl sc pl pa tl) (some (.int (ha 0 2 1))) (cH pd si sa hv ha sl sc pl pa tl) := by
  refine pm_sem hl mo_B_moment ⟨_, rfl, rfl⟩ rfl rfl (Nat.le_of_ble_eq_true rfl) (fun K G hK hret => ?_)
  refine pm_iload_n dB_moment_0 rfl (q := 1) rfl ?_
  refine pm_tabIn (tgt := 56) dB_moment_1 (by decide) (by decide) (off := 55) (by decide) rfl ?_
  refine pm_aload_n dB_moment_56 rfl (q := 57) rfl ?_
  refine pm_get fl_B_25 dB_moment_57 rfl rfl (q := 60) rfl ?_
  refine pm_get fl_B_147 dB_moment_60 rfl rfl (q := 63) rfl ?_
  refine pm_iload_n dB_moment_63 rfl (q := 64) rfl ?_
  refine pm_iconst (x := 2) dB_moment_64 (by decide) (q := 65) rfl ?_
  refine pm_isub dB_moment_65 (q := 66) rfl ?_
  refine pm_topL (y := 1) (by decide) ?_
  refine pm_iald dB_moment_66 rfl (by unfold vp_in; decide) (q := 67) rfl ?_
  exact pm_retI hret dB_moment_67 rfl
set_option maxHeartbeats 4000000 in
theorem kB_moment_4 {l : Launch} (hl : l.stackTraces = false) (d : Nat) {pd : Int32} {si : Nat → Int32} {sa : Nat → Nat → Int32} {hv : Nat → Int32} {ha : Nat → Nat → Nat → Int32} {sl : Int32} {sc : Nat → Nat → Int32} {pl : Int32} {pa : Nat → Nat → Int32} {tl : pm_H} : pm_Sem l d mB_moment [.ref 0, .int 4] (cH pd si sa hv ha sl sc pl pa tl) (some (.int (ha 0 2 2))) (cH pd si sa hv ha sl sc pl pa tl) := by
  refine pm_sem hl mo_B_moment ⟨_, rfl, rfl⟩ rfl rfl (Nat.le_of_ble_eq_true rfl) (fun K G hK hret => ?_)
  refine pm_iload_n dB_moment_0 rfl (q := 1) rfl ?_
  refine pm_tabIn (tgt := 56) dB_moment_1 (by decide) (by decide) (off := 55) (by decide) rfl ?_
  refine pm_aload_n dB_moment_56 rfl (q := 57) rfl ?_
  refine pm_get fl_B_25 dB_moment_57 rfl rfl (q := 60) rfl ?_
  refine pm_get fl_B_147 dB_moment_60 rfl rfl (q := 63) rfl ?_
  refine pm_iload_n dB_moment_63 rfl (q := 64) rfl ?_
  refine pm_iconst (x := 2) dB_moment_64 (by decide) (q := 65) rfl ?_
  refine pm_isub dB_moment_65 (q := 66) rfl ?_
  refine pm_topL (y := 2) (by decide) ?_
  refine pm_iald dB_moment_66 rfl (by unfold vp_in; decide) (q := 67) rfl ?_
  exact pm_retI hret dB_moment_67 rfl
set_option maxHeartbeats 4000000 in
theorem kB_moment_5 {l : Launch} (hl : l.stackTraces = false) (d : Nat) (hd : 3 ≤ d) {pd : Int32} {si : Nat → Int32} {sa : Nat → Nat → Int32} {hv : Nat → Int32} {ha : Nat → Nat → Nat → Int32} {sl : Int32} {sc : Nat → Nat → Int32} {pl : Int32} {pa : Nat → Nat → Int32} {tl : pm_H} {S : Nat} (HO : HoldOk si (ha 0 0) (ha 0 1) S) : pm_Sem l d mB_moment [.ref 0, .int 5] (cH pd si sa hv ha sl sc pl pa tl) (some (.int (fsound si (ha 0 0) (ha 0 1) (ha 0 2) sa (hv 0) S))) (cH pd si sa hv ha sl sc pl pa tl) := by
  refine pm_sem hl mo_B_moment ⟨_, rfl, rfl⟩ rfl rfl (Nat.le_of_ble_eq_true rfl) (fun K G hK hret => ?_)
  refine pm_iload_n dB_moment_0 rfl (q := 1) rfl ?_
  refine pm_tabIn (tgt := 68) dB_moment_1 (by decide) (by decide) (off := 67) (by decide) rfl ?_
  refine pm_aload_n dB_moment_68 rfl (q := 69) rfl ?_
  refine pm_get fl_B_25 dB_moment_69 rfl rfl (q := 72) rfl ?_
  refine pm_cV0i hK (kH_isSound hl 2 (Nat.le_refl _) cH_hold0 HO) mo_H_isSound im_H_isSound se_H_isSound lk_B_150 dB_moment_72 (by omega) (Nat.le_of_ble_eq_true rfl) (Nat.zero_le _) (Nat.zero_le _) rfl rfl rfl (q := 75) rfl ?_
  refine pm_if_eq (tgt := 82) dB_moment_75 rfl (q := 78) rfl (fun h75 => ?_) (fun h75 => ?_)
  · refine pm_iconst (x := 0) dB_moment_82 (by decide) (q := 83) rfl ?_
    exact pm_retI hret dB_moment_83 (by first | (rw [h75]; done) | exact (fsound_01 _ _ _ _ _ _ _ h75).symm)
  · refine pm_iconst (x := 1) dB_moment_78 (by decide) (q := 79) rfl ?_
    refine pm_goto (tgt := 83) dB_moment_79 rfl ?_
    exact pm_retI hret dB_moment_83 (by first | (rw [h75]; done) | exact (fsound_01 _ _ _ _ _ _ _ h75).symm)
set_option maxHeartbeats 4000000 in
theorem kB_moment_no {l : Launch} (hl : l.stackTraces = false) (d : Nat) (hd : 7 ≤ d) {pd : Int32} {si : Nat → Int32} {sa : Nat → Nat → Int32} {hv : Nat → Int32} {ha : Nat → Nat → Nat → Int32} {sl : Int32} {sc : Nat → Nat → Int32} {pl : Int32} {pa : Nat → Nat → Int32} {tl : pm_H} (w : Int32) (hw : w.toInt < 0 ∨ 5 < w.toInt) : pm_SemX l d mB_moment [.ref 0, .int w] (cH pd si sa hv ha sl sc pl pa tl) "java/lang/IllegalArgumentException" (cH pd si sa hv ha sl sc pl pa tl) := by
  refine pm_semX hl mo_B_moment rfl rfl (Nat.le_of_ble_eq_true rfl) ?_
  have hK := pm_KX_Kd (l := l) (d := d) (h0 := (cH pd si sa hv ha sl sc pl pa tl))
  refine pm_iload_n dB_moment_0 rfl (q := 1) rfl ?_
  refine pm_tabOut (tgt := 84) dB_moment_1 hw rfl ?_
  exact pm_new0 ex_IAE rfl dB_moment_84 dB_moment_87 dB_moment_88 dB_moment_91 (by simp; omega) (Nat.le_of_ble_eq_true rfl)
