/-! the model: stays, has, shifts, add -/
def fM_st (a b : Int32) (s : Nat) : Nat → Nat → Nat
  | 0, j => j
  | m + 1, j => if fM_boxAt a (nI (3 * s + j)) < 0 ∨ ¬ fM_boxAt a (nI (3 * s + j)) = fM_boxAt b (nI (3 * s + j)) then j else fM_st a b s m (j + 1)
theorem fM_st_le (a b : Int32) (s : Nat) : ∀ m j, fM_st a b s m j ≤ m + j := by
  intro m
  induction m with
  | zero => intro j; rw [fM_st]; omega
  | succ m ih =>
    intro j
    rw [fM_st]
    split
    · omega
    · have := ih (j + 1); omega
set_option maxHeartbeats 4000000 in
theorem kM_stays {l : Launch} (hl : l.stackTraces = false) (d : Nat) (hd : 1 ≤ d) (a b : Int32) (s : Nat) (h : pm_H) : pm_Sem l d mM_stays [.int a, .int b, .int (nI s)] h (some (.int (nI (fM_st a b s 3 0)))) h := by
  refine pm_sem hl mo_M_stays ⟨_, rfl, rfl⟩ rfl rfl (Nat.le_of_ble_eq_true rfl) (fun K G hK hret => ?_)
  have hL : ∀ (m j : Nat), m + j = 3 → fM_st a b s m j = fM_st a b s 3 0 → pm_Go mM_stays K G 2 [some (.int a), some (.int b), some (.int (nI s)), some (.int (nI j))] [] h 0 0 := by
    intro m
    induction m with
    | zero =>
      intro j hj hr
      have hj : j = 3 := by omega
      subst hj
      refine pm_iload_n dM_stays_2 rfl (q := 3) rfl ?_
      refine pm_iconst (x := 3) dM_stays_3 (by decide) (q := 4) rfl ?_
      refine pm_icmp_ge (tgt := 46) dM_stays_4 rfl (q := 7) rfl (fun _ => ?_) (fun z => absurd (by decide) z)
      refine pm_iload_n dM_stays_46 rfl (q := 47) rfl ?_
      exact pm_retI hret dM_stays_47 (congrArg nI hr)
    | succ m ih =>
      intro j hj hr
      have hj3 : j < 3 := by omega
      rw [fM_st] at hr
      refine pm_iload_n dM_stays_2 rfl (q := 3) rfl ?_
      refine pm_iconst (x := 3) dM_stays_3 (by decide) (q := 4) rfl ?_
      refine pm_icmp_ge (tgt := 46) dM_stays_4 rfl (q := 7) rfl (fun z => absurd z (show ¬ (3 : Int32) ≤ nI j from nI_ge (b := 3) hj3 (by decide))) (fun _ => ?_)
      refine pm_iload_n dM_stays_7 rfl (q := 8) rfl ?_
      refine pm_iconst (x := 3) dM_stays_8 (by decide) (q := 9) rfl ?_
      refine pm_iload_n dM_stays_9 rfl (q := 10) rfl ?_
      refine pm_imul dM_stays_10 (q := 11) rfl ?_
      refine pm_iload_n dM_stays_11 rfl (q := 12) rfl ?_
      refine pm_iadd dM_stays_12 (q := 13) rfl ?_
      refine pm_topL (y := nI (3 * s + j)) (nI_ts s j) ?_
      refine pm_cS2i hK (kM_boxAt hl 0 _ _ _) mo_M_boxAt st_M_boxAt lk_M_147 dM_stays_13 (by omega) (Nat.le_of_ble_eq_true rfl) (Nat.zero_le _) (Nat.zero_le _) (q := 16) rfl ?_
      refine pm_if_lt (tgt := 46) dM_stays_16 rfl (q := 19) rfl (fun h16 => ?_) (fun h16 => ?_)
      · refine pm_iload_n dM_stays_46 rfl (q := 47) rfl ?_
        first | exact pm_retI hret dM_stays_47 (congrArg nI ((if_pos (Or.inl h16)).symm.trans hr)) | exact pm_retI hret dM_stays_47 (congrArg nI ((if_pos (Or.inr h37)).symm.trans hr))
      · refine pm_iload_n dM_stays_19 rfl (q := 20) rfl ?_
        refine pm_iconst (x := 3) dM_stays_20 (by decide) (q := 21) rfl ?_
        refine pm_iload_n dM_stays_21 rfl (q := 22) rfl ?_
        refine pm_imul dM_stays_22 (q := 23) rfl ?_
        refine pm_iload_n dM_stays_23 rfl (q := 24) rfl ?_
        refine pm_iadd dM_stays_24 (q := 25) rfl ?_
        refine pm_topL (y := nI (3 * s + j)) (nI_ts s j) ?_
        refine pm_cS2i hK (kM_boxAt hl 0 _ _ _) mo_M_boxAt st_M_boxAt lk_M_147 dM_stays_25 (by omega) (Nat.le_of_ble_eq_true rfl) (Nat.zero_le _) (Nat.zero_le _) (q := 28) rfl ?_
        refine pm_iload_n dM_stays_28 rfl (q := 29) rfl ?_
        refine pm_iconst (x := 3) dM_stays_29 (by decide) (q := 30) rfl ?_
        refine pm_iload_n dM_stays_30 rfl (q := 31) rfl ?_
        refine pm_imul dM_stays_31 (q := 32) rfl ?_
        refine pm_iload_n dM_stays_32 rfl (q := 33) rfl ?_
        refine pm_iadd dM_stays_33 (q := 34) rfl ?_
        refine pm_topL (y := nI (3 * s + j)) (nI_ts s j) ?_
        refine pm_cS2i hK (kM_boxAt hl 0 _ _ _) mo_M_boxAt st_M_boxAt lk_M_147 dM_stays_34 (by omega) (Nat.le_of_ble_eq_true rfl) (Nat.zero_le _) (Nat.zero_le _) (q := 37) rfl ?_
        refine pm_icmp_ne (tgt := 46) dM_stays_37 rfl (q := 40) rfl (fun h37 => ?_) (fun h37 => ?_)
        · refine pm_iload_n dM_stays_46 rfl (q := 47) rfl ?_
          first | exact pm_retI hret dM_stays_47 (congrArg nI ((if_pos (Or.inl h16)).symm.trans hr)) | exact pm_retI hret dM_stays_47 (congrArg nI ((if_pos (Or.inr h37)).symm.trans hr))
        · refine pm_iincL dM_stays_40 rfl (by decide) (y := nI (j + 1)) (by rw [nI_succ]; rfl) (q := 43) rfl ?_
          refine pm_goto (tgt := 2) dM_stays_43 rfl ?_
          refine ih (j + 1) (by omega) ?_
          rw [if_neg (fun z => z.elim h16 (fun y => y h37))] at hr
          exact hr
  refine pm_iconst (x := 0) dM_stays_0 (by decide) (q := 1) rfl ?_
  refine pm_istore_n dM_stays_1 (by decide) (q := 2) rfl ?_
  exact hL 3 0 (by omega) rfl
def fM_has (a b : Int32) : Nat → Int32
  | 0 => 0
  | j + 1 => if ¬ fM_has a b j = 0 ∨ fM_boxAt a (nI j) = b then 1 else 0
theorem fM_has_b (a b : Int32) (n : Nat) : narrow .boolean (.int (fM_has a b n)) = .int (fM_has a b n) := by
  cases n with
  | zero => rw [fM_has]; rfl
  | succ n => unfold fM_has; split <;> rfl
set_option maxHeartbeats 4000000 in
theorem kM_has {l : Launch} (hl : l.stackTraces = false) (d : Nat) (hd : 1 ≤ d) (a b : Int32) (h : pm_H) : pm_Sem l d mM_has [.int a, .int b] h (some (.int (fM_has a b 9))) h := by
  refine pm_sem hl mo_M_has ⟨_, rfl, fM_has_b _ _ _⟩ rfl rfl (Nat.le_of_ble_eq_true rfl) (fun K G hK hret => ?_)
  have hL : ∀ (m j : Nat), m + j = 9 → pm_Go mM_has K G 4 [some (.int a), some (.int b), some (.int (fM_has a b j)), some (.int (nI j))] [] h 0 0 := by
    intro m
    induction m with
    | zero =>
      intro j hj
      have hj : j = 9 := by omega
      subst hj
      refine pm_iload_n dM_has_4 rfl (q := 5) rfl ?_
      refine pm_bipush (x := 9) dM_has_5 (by decide) (q := 7) rfl ?_
      refine pm_icmp_ge (tgt := 35) dM_has_7 rfl (q := 10) rfl (fun _ => ?_) (fun z => absurd (by decide) z)
      refine pm_iload_n dM_has_35 rfl (q := 36) rfl ?_
      exact pm_retI hret dM_has_36 rfl
    | succ m ih =>
      intro j hj
      have hj9 : j < 9 := by omega
      refine pm_iload_n dM_has_4 rfl (q := 5) rfl ?_
      refine pm_bipush (x := 9) dM_has_5 (by decide) (q := 7) rfl ?_
      refine pm_icmp_ge (tgt := 35) dM_has_7 rfl (q := 10) rfl (fun z => absurd z (show ¬ (9 : Int32) ≤ nI j from nI_ge (b := 9) hj9 (by decide))) (fun _ => ?_)
      refine pm_iload_n dM_has_10 rfl (q := 11) rfl ?_
      refine pm_if_ne (tgt := 23) dM_has_11 rfl (q := 14) rfl (fun h11 => ?_) (fun h11 => ?_)
      · refine pm_iconst (x := 1) dM_has_23 (by decide) (q := 24) rfl ?_
        refine pm_goto (tgt := 28) dM_has_24 rfl ?_
        refine pm_istore_n dM_has_28 (by decide) (q := 29) rfl ?_
        refine pm_iincL dM_has_29 rfl (by decide) (y := nI (j + 1)) (by rw [nI_succ]; rfl) (q := 32) rfl ?_
        refine pm_goto (tgt := 4) dM_has_32 rfl ?_
        refine pm_loc (ls' := [some (.int a), some (.int b), some (.int (fM_has a b (j + 1))), some (.int (nI (j + 1)))]) ?_ (ih (j + 1) (by omega))
        first
        | (have e9 : fM_has a b (j + 1) = 1 := if_pos (Or.inl h11)
           rw [e9]
           rfl)
        | (have e9 : fM_has a b (j + 1) = 1 := if_pos (Or.inr h20)
           rw [e9]
           rfl)
        | (have e9 : fM_has a b (j + 1) = 0 := by simp [fM_has, h11, h20]
           rw [e9]
           rfl)
      · refine pm_iload_n dM_has_14 rfl (q := 15) rfl ?_
        refine pm_iload_n dM_has_15 rfl (q := 16) rfl ?_
        refine pm_cS2i hK (kM_boxAt hl 0 _ _ _) mo_M_boxAt st_M_boxAt lk_M_147 dM_has_16 (by omega) (Nat.le_of_ble_eq_true rfl) (Nat.zero_le _) (Nat.zero_le _) (q := 19) rfl ?_
        refine pm_iload_n dM_has_19 rfl (q := 20) rfl ?_
        refine pm_icmp_ne (tgt := 27) dM_has_20 rfl (q := 23) rfl (fun h20 => ?_) (fun h20 => ?_)
        · refine pm_iconst (x := 0) dM_has_27 (by decide) (q := 28) rfl ?_
          refine pm_istore_n dM_has_28 (by decide) (q := 29) rfl ?_
          refine pm_iincL dM_has_29 rfl (by decide) (y := nI (j + 1)) (by rw [nI_succ]; rfl) (q := 32) rfl ?_
          refine pm_goto (tgt := 4) dM_has_32 rfl ?_
          refine pm_loc (ls' := [some (.int a), some (.int b), some (.int (fM_has a b (j + 1))), some (.int (nI (j + 1)))]) ?_ (ih (j + 1) (by omega))
          first
          | (have e9 : fM_has a b (j + 1) = 1 := if_pos (Or.inl h11)
             rw [e9]
             rfl)
          | (have e9 : fM_has a b (j + 1) = 1 := if_pos (Or.inr h20)
             rw [e9]
             rfl)
          | (have e9 : fM_has a b (j + 1) = 0 := by simp [fM_has, h11, h20]
             rw [e9]
             rfl)
        · refine pm_iconst (x := 1) dM_has_23 (by decide) (q := 24) rfl ?_
          refine pm_goto (tgt := 28) dM_has_24 rfl ?_
          refine pm_istore_n dM_has_28 (by decide) (q := 29) rfl ?_
          refine pm_iincL dM_has_29 rfl (by decide) (y := nI (j + 1)) (by rw [nI_succ]; rfl) (q := 32) rfl ?_
          refine pm_goto (tgt := 4) dM_has_32 rfl ?_
          refine pm_loc (ls' := [some (.int a), some (.int b), some (.int (fM_has a b (j + 1))), some (.int (nI (j + 1)))]) ?_ (ih (j + 1) (by omega))
          first
          | (have e9 : fM_has a b (j + 1) = 1 := if_pos (Or.inl h11)
             rw [e9]
             rfl)
          | (have e9 : fM_has a b (j + 1) = 1 := if_pos (Or.inr h20)
             rw [e9]
             rfl)
          | (have e9 : fM_has a b (j + 1) = 0 := by simp [fM_has, h11, h20]
             rw [e9]
             rfl)
  refine pm_iconst (x := 0) dM_has_0 (by decide) (q := 1) rfl ?_
  refine pm_istore_n dM_has_1 (by decide) (q := 2) rfl ?_
  refine pm_iconst (x := 0) dM_has_2 (by decide) (q := 3) rfl ?_
  refine pm_istore_n dM_has_3 (by decide) (q := 4) rfl ?_
  exact hL 9 0 (by omega)
def fM_shi (a b : Int32) (s : Nat) : Nat → Nat → Int32 → Int32
  | 0, _, n => n
  | m + 1, t, n => fM_shi a b s m (t + 1) (if ¬ fM_boxAt a (nI (3 * s + t)) < 0 ∧ ¬ fM_has b (fM_boxAt a (nI (3 * s + t))) 9 = 0 then n + 1 else n)
def fM_sho (a b : Int32) : Nat → Int32
  | 0 => 0
  | s + 1 => fM_shi a b s (3 - fM_st a b s 3 0) (fM_st a b s 3 0) (fM_sho a b s)
set_option maxHeartbeats 4000000 in
theorem kM_shifts {l : Launch} (hl : l.stackTraces = false) (d : Nat) (hd : 2 ≤ d) (a b : Int32) (h : pm_H) : pm_Sem l d mM_shifts [.int a, .int b] h (some (.int (fM_sho a b 3))) h := by
  refine pm_sem hl mo_M_shifts ⟨_, rfl, rfl⟩ rfl rfl (Nat.le_of_ble_eq_true rfl) (fun K G hK hret => ?_)
  have hL : ∀ (m s : Nat) (o o2 : Option Value), m + s = 3 → pm_Go mM_shifts K G 4 [some (.int a), some (.int b), some (.int (fM_sho a b s)), some (.int (nI s)), o, o2] [] h 0 0 := by
    intro m
    induction m with
    | zero =>
      intro s o o2 hj
      have hj : s = 3 := by omega
      subst hj
      refine pm_iload_n dM_shifts_4 rfl (q := 5) rfl ?_
      refine pm_iconst (x := 3) dM_shifts_5 (by decide) (q := 6) rfl ?_
      refine pm_icmp_ge (tgt := 69) dM_shifts_6 rfl (q := 9) rfl (fun _ => ?_) (fun z => absurd (by decide) z)
      refine pm_iload_n dM_shifts_69 rfl (q := 70) rfl ?_
      exact pm_retI hret dM_shifts_70 rfl
    | succ m ih =>
      intro s o o2 hj
      have hs3 : s < 3 := by omega
      have hI : ∀ (m2 t : Nat) (n : Int32) (o2 : Option Value), m2 + t = 3 → fM_shi a b s m2 t n = fM_sho a b (s + 1) → pm_Go mM_shifts K G 17 [some (.int a), some (.int b), some (.int n), some (.int (nI s)), some (.int (nI t)), o2] [] h 0 0 := by
        intro m2
        induction m2 with
        | zero =>
          intro t n o2 ht hr
          have ht : t = 3 := by omega
          subst ht
          have hr : n = fM_sho a b (s + 1) := hr
          subst hr
          refine pm_iload dM_shifts_17 rfl (q := 19) rfl ?_
          refine pm_iconst (x := 3) dM_shifts_19 (by decide) (q := 20) rfl ?_
          refine pm_icmp_ge (tgt := 63) dM_shifts_20 rfl (q := 23) rfl (fun _ => ?_) (fun z => absurd (by decide) z)
          refine pm_iincL dM_shifts_63 rfl (by decide) (y := nI (s + 1)) (by rw [nI_succ]; rfl) (q := 66) rfl ?_
          refine pm_goto (tgt := 4) dM_shifts_66 rfl ?_
          exact ih (s + 1) _ _ (by omega)
        | succ m2 ih2 =>
          intro t n o2 ht hr
          have ht3 : t < 3 := by omega
          rw [fM_shi] at hr
          refine pm_iload dM_shifts_17 rfl (q := 19) rfl ?_
          refine pm_iconst (x := 3) dM_shifts_19 (by decide) (q := 20) rfl ?_
          refine pm_icmp_ge (tgt := 63) dM_shifts_20 rfl (q := 23) rfl (fun z => absurd z (show ¬ (3 : Int32) ≤ nI t from nI_ge (b := 3) ht3 (by decide))) (fun _ => ?_)
          refine pm_iload_n dM_shifts_23 rfl (q := 24) rfl ?_
          refine pm_iconst (x := 3) dM_shifts_24 (by decide) (q := 25) rfl ?_
          refine pm_iload_n dM_shifts_25 rfl (q := 26) rfl ?_
          refine pm_imul dM_shifts_26 (q := 27) rfl ?_
          refine pm_iload dM_shifts_27 rfl (q := 29) rfl ?_
          refine pm_iadd dM_shifts_29 (q := 30) rfl ?_
          refine pm_topL (y := nI (3 * s + t)) (nI_ts s t) ?_
          refine pm_cS2i hK (kM_boxAt hl 0 _ _ _) mo_M_boxAt st_M_boxAt lk_M_147 dM_shifts_30 (by omega) (Nat.le_of_ble_eq_true rfl) (Nat.zero_le _) (Nat.zero_le _) (q := 33) rfl ?_
          refine pm_istore dM_shifts_33 (by decide) (q := 35) rfl ?_
          refine pm_iload dM_shifts_35 rfl (q := 37) rfl ?_
          refine pm_if_lt (tgt := 55) dM_shifts_37 rfl (q := 40) rfl (fun h37 => ?_) (fun h37 => ?_)
          · refine pm_iload_n dM_shifts_55 rfl (q := 56) rfl ?_
            refine pm_istore_n dM_shifts_56 (by decide) (q := 57) rfl ?_
            refine pm_iincL dM_shifts_57 rfl (by decide) (y := nI (t + 1)) (by rw [nI_succ]; rfl) (q := 60) rfl ?_
            refine pm_goto (tgt := 17) dM_shifts_60 rfl ?_
            first
            | (have e9 : (if ¬ fM_boxAt a (nI (3 * s + t)) < 0 ∧ ¬ fM_has b (fM_boxAt a (nI (3 * s + t))) 9 = 0 then n + 1 else n) = n := by simp [h37]
               rw [e9] at hr
               exact ih2 (t + 1) _ _ (by omega) hr)
            | (have e9 : (if ¬ fM_boxAt a (nI (3 * s + t)) < 0 ∧ ¬ fM_has b (fM_boxAt a (nI (3 * s + t))) 9 = 0 then n + 1 else n) = n := by simp [h46]
               rw [e9] at hr
               exact ih2 (t + 1) _ _ (by omega) hr)
            | (have e9 : (if ¬ fM_boxAt a (nI (3 * s + t)) < 0 ∧ ¬ fM_has b (fM_boxAt a (nI (3 * s + t))) 9 = 0 then n + 1 else n) = n + 1 := if_pos ⟨h37, h46⟩
               rw [e9] at hr
               exact ih2 (t + 1) _ _ (by omega) hr)
          · refine pm_iload_n dM_shifts_40 rfl (q := 41) rfl ?_
            refine pm_iload dM_shifts_41 rfl (q := 43) rfl ?_
            refine pm_cS2i hK (kM_has hl 1 (Nat.le_refl _) _ _ _) mo_M_has st_M_has lk_M_155 dM_shifts_43 (by omega) (Nat.le_of_ble_eq_true rfl) (Nat.zero_le _) (Nat.zero_le _) (q := 46) rfl ?_
            refine pm_if_eq (tgt := 55) dM_shifts_46 rfl (q := 49) rfl (fun h46 => ?_) (fun h46 => ?_)
            · refine pm_iload_n dM_shifts_55 rfl (q := 56) rfl ?_
              refine pm_istore_n dM_shifts_56 (by decide) (q := 57) rfl ?_
              refine pm_iincL dM_shifts_57 rfl (by decide) (y := nI (t + 1)) (by rw [nI_succ]; rfl) (q := 60) rfl ?_
              refine pm_goto (tgt := 17) dM_shifts_60 rfl ?_
              first
              | (have e9 : (if ¬ fM_boxAt a (nI (3 * s + t)) < 0 ∧ ¬ fM_has b (fM_boxAt a (nI (3 * s + t))) 9 = 0 then n + 1 else n) = n := by simp [h37]
                 rw [e9] at hr
                 exact ih2 (t + 1) _ _ (by omega) hr)
              | (have e9 : (if ¬ fM_boxAt a (nI (3 * s + t)) < 0 ∧ ¬ fM_has b (fM_boxAt a (nI (3 * s + t))) 9 = 0 then n + 1 else n) = n := by simp [h46]
                 rw [e9] at hr
                 exact ih2 (t + 1) _ _ (by omega) hr)
              | (have e9 : (if ¬ fM_boxAt a (nI (3 * s + t)) < 0 ∧ ¬ fM_has b (fM_boxAt a (nI (3 * s + t))) 9 = 0 then n + 1 else n) = n + 1 := if_pos ⟨h37, h46⟩
                 rw [e9] at hr
                 exact ih2 (t + 1) _ _ (by omega) hr)
            · refine pm_iload_n dM_shifts_49 rfl (q := 50) rfl ?_
              refine pm_iconst (x := 1) dM_shifts_50 (by decide) (q := 51) rfl ?_
              refine pm_iadd dM_shifts_51 (q := 52) rfl ?_
              refine pm_goto (tgt := 56) dM_shifts_52 rfl ?_
              refine pm_istore_n dM_shifts_56 (by decide) (q := 57) rfl ?_
              refine pm_iincL dM_shifts_57 rfl (by decide) (y := nI (t + 1)) (by rw [nI_succ]; rfl) (q := 60) rfl ?_
              refine pm_goto (tgt := 17) dM_shifts_60 rfl ?_
              first
              | (have e9 : (if ¬ fM_boxAt a (nI (3 * s + t)) < 0 ∧ ¬ fM_has b (fM_boxAt a (nI (3 * s + t))) 9 = 0 then n + 1 else n) = n := by simp [h37]
                 rw [e9] at hr
                 exact ih2 (t + 1) _ _ (by omega) hr)
              | (have e9 : (if ¬ fM_boxAt a (nI (3 * s + t)) < 0 ∧ ¬ fM_has b (fM_boxAt a (nI (3 * s + t))) 9 = 0 then n + 1 else n) = n := by simp [h46]
                 rw [e9] at hr
                 exact ih2 (t + 1) _ _ (by omega) hr)
              | (have e9 : (if ¬ fM_boxAt a (nI (3 * s + t)) < 0 ∧ ¬ fM_has b (fM_boxAt a (nI (3 * s + t))) 9 = 0 then n + 1 else n) = n + 1 := if_pos ⟨h37, h46⟩
                 rw [e9] at hr
                 exact ih2 (t + 1) _ _ (by omega) hr)
      refine pm_iload_n dM_shifts_4 rfl (q := 5) rfl ?_
      refine pm_iconst (x := 3) dM_shifts_5 (by decide) (q := 6) rfl ?_
      refine pm_icmp_ge (tgt := 69) dM_shifts_6 rfl (q := 9) rfl (fun z => absurd z (show ¬ (3 : Int32) ≤ nI s from nI_ge (b := 3) hs3 (by decide))) (fun _ => ?_)
      refine pm_iload_n dM_shifts_9 rfl (q := 10) rfl ?_
      refine pm_iload_n dM_shifts_10 rfl (q := 11) rfl ?_
      refine pm_iload_n dM_shifts_11 rfl (q := 12) rfl ?_
      refine pm_cS3i hK (kM_stays hl 1 (Nat.le_refl _) _ _ s _) mo_M_stays st_M_stays lk_M_151 dM_shifts_12 (by omega) (Nat.le_of_ble_eq_true rfl) (Nat.zero_le _) (Nat.zero_le _) (q := 15) rfl ?_
      refine pm_istore dM_shifts_15 (by decide) (q := 17) rfl ?_
      exact hI (3 - fM_st a b s 3 0) (fM_st a b s 3 0) _ _ (by have := fM_st_le a b s 3 0; omega) rfl
  refine pm_iconst (x := 0) dM_shifts_0 (by decide) (q := 1) rfl ?_
  refine pm_istore_n dM_shifts_1 (by decide) (q := 2) rfl ?_
  refine pm_iconst (x := 0) dM_shifts_2 (by decide) (q := 3) rfl ?_
  refine pm_istore_n dM_shifts_3 (by decide) (q := 4) rfl ?_
  exact hL 3 0 _ _ (by omega)
set_option maxHeartbeats 4000000 in
theorem kM_add {l : Launch} (hl : l.stackTraces = false) (d : Nat) {pd : Int32} {si : Nat → Int32} {sa : Nat → Nat → Int32} {hv : Nat → Int32} {ha : Nat → Nat → Nat → Int32} {sl : Int32} {sc : Nat → Nat → Int32} {pl : Int32} {pa : Nat → Nat → Int32} {mi : Nat → Int32} {ma : Nat → Nat → Int32} {tl : pm_H} (x y z w : Int32) (hx : vp_in (mi 19) 60) : pm_Sem l d mM_add [.ref 31, .int x, .int y, .int z, .int w] (cH pd si sa hv ha sl sc pl pa (mH (mi) (ma) tl)) none (cH pd si sa hv ha sl sc pl pa (mH (up1 mi 19 (mi 19 + 1)) (fun j => if j = 10 then upd (ma 10) (mi 19).toNatClampNeg x else if j = 11 then upd (ma 11) (mi 19).toNatClampNeg y else if j = 12 then upd (ma 12) (mi 19).toNatClampNeg z else if j = 13 then upd (ma 13) (mi 19).toNatClampNeg w else ma j) tl)) := by
  refine pm_sem hl mo_M_add rfl rfl rfl (Nat.le_of_ble_eq_true rfl) (fun K G hK hret => ?_)
  refine pm_aload_n dM_add_0 rfl (q := 1) rfl ?_
  refine pm_get fl_M_60 dM_add_1 rfl rfl (q := 4) rfl ?_
  refine pm_aload_n dM_add_4 rfl (q := 5) rfl ?_
  refine pm_get fl_M_89 dM_add_5 rfl rfl (q := 8) rfl ?_
  refine pm_iload_n dM_add_8 rfl (q := 9) rfl ?_
  refine pm_iast dM_add_9 rfl (hx) (q := 10) rfl ?_
  refine pm_aload_n dM_add_10 rfl (q := 11) rfl ?_
  refine pm_get fl_M_63 dM_add_11 rfl rfl (q := 14) rfl ?_
  refine pm_aload_n dM_add_14 rfl (q := 15) rfl ?_
  refine pm_get fl_M_89 dM_add_15 rfl rfl (q := 18) rfl ?_
  refine pm_iload_n dM_add_18 rfl (q := 19) rfl ?_
  refine pm_iast dM_add_19 rfl (hx) (q := 20) rfl ?_
  refine pm_aload_n dM_add_20 rfl (q := 21) rfl ?_
  refine pm_get fl_M_66 dM_add_21 rfl rfl (q := 24) rfl ?_
  refine pm_aload_n dM_add_24 rfl (q := 25) rfl ?_
  refine pm_get fl_M_89 dM_add_25 rfl rfl (q := 28) rfl ?_
  refine pm_iload_n dM_add_28 rfl (q := 29) rfl ?_
  refine pm_iast dM_add_29 rfl (hx) (q := 30) rfl ?_
  refine pm_aload_n dM_add_30 rfl (q := 31) rfl ?_
  refine pm_get fl_M_69 dM_add_31 rfl rfl (q := 34) rfl ?_
  refine pm_aload_n dM_add_34 rfl (q := 35) rfl ?_
  refine pm_get fl_M_89 dM_add_35 rfl rfl (q := 38) rfl ?_
  refine pm_iload dM_add_38 rfl (q := 40) rfl ?_
  refine pm_iast dM_add_40 rfl (hx) (q := 41) rfl ?_
  refine pm_aload_n dM_add_41 rfl (q := 42) rfl ?_
  refine pm_dup dM_add_42 rfl (q := 43) rfl ?_
  refine pm_get fl_M_89 dM_add_43 rfl rfl (q := 46) rfl ?_
  refine pm_iconst (x := 1) dM_add_46 (by decide) (q := 47) rfl ?_
  refine pm_iadd dM_add_47 (q := 48) rfl ?_
  refine pm_put fp_M_89 dM_add_48 rfl (Nat.le_of_ble_eq_true rfl) (fun _ => rfl) (fun _ => rfl) (q := 51) rfl ?_
  exact pm_retV hret dM_add_51 rfl
