/-! cells that differ beyond their length only; filling; the heap of the system -/
section Ext
variable {M : pm_M} {K : pm_X → Prop} {G : pm_X → State → Prop} {pc : Nat} {ls : List (Option Value)} {st : List Value} {h : pm_H} {k n : Nat}
theorem pm_arrV {cA : ClassId} {N : Nat} {f g : Nat → Value} (h : ∀ j, j < N → f j = g j) : arrV cA N f = arrV cA N g := by
  unfold arrV
  congr 1
  apply Array.ext
  · simp
  · intro i h1 h2
    simp at h1
    simp [h i h1]
theorem pm_exti {a n0 : Nat} {f f' : Nat → Int32} (hh : h[a]? = some (pm_i n0 f)) (he : ∀ j, j < n0 → f j = f' j) (kk : pm_Go M K G pc ls st (h.set a (pm_i n0 f')) k n) : pm_Go M K G pc ls st h k n := by
  rintro ⟨p, l, e, R, s, m, args, below, meth, c, A, D, κ, α⟩ hK hO H locs rs hs
  obtain ⟨hP, hD, hS, hL⟩ := hs
  have h0 : (pm_w α κ h)[a]? = some (α a, pm_e α κ (pm_i n0 f)) := pm_w_at hh
  have e1 := pm_w_set (α := α) (κ := κ) h a (pm_i n0 f')
  refine kk _ hK hO H locs rs ⟨?_, ?_, hS, hL⟩
  · rw [← e1]
    refine hP.set hD h0 ?_ (fun _ _ => rfl)
    have h1 := hP a _ h0
    show H[α a]? = some (vp_cell (κ .int) (n0, .inl f'))
    have h2 : H[α a]? = some (vp_cell (κ .int) (n0, .inl f)) := h1
    rw [h2, vp_cell_i, vp_cell_i]
    congr 1
    exact pm_arrV (fun j hj => by rw [he j hj])
  · rw [← e1]
    exact hD.set h0
theorem pm_set_self {h : pm_H} {a : Nat} {c : pm_C} (hh : h[a]? = some c) : h.set a c = h := by
  apply List.ext_getElem?
  intro i
  rw [List.getElem?_set]
  by_cases hi : a = i
  · subst hi
    have hl := (List.getElem?_eq_some_iff.mp hh).1
    rw [if_pos rfl, if_pos hl, hh]
  · rw [if_neg hi]
theorem pm_get_set {h : pm_H} {a : Nat} {c c' : pm_C} (hh : h[a]? = some c) : (h.set a c')[a]? = some c' := by
  rw [List.getElem?_set_self (List.getElem?_eq_some_iff.mp hh).1]
end Ext
set_option maxHeartbeats 2000000 in
theorem kA_fill {l : Launch} (hl : l.stackTraces = false) (d : Nat) {a n : Nat} {f : Nat → Int32} (x : Int32) {h : pm_H} (hh : h[a]? = some (pm_i n f)) (hn : n < 2 ^ 31) : pm_Sem l d mA_fill [.ref a, .int x] h none (h.set a (pm_i n (fun _ => x))) := by
  refine pm_sem hl mo_A_fill rfl rfl rfl (Nat.le_of_ble_eq_true rfl) (fun K G hK hret => ?_)
  have hL : ∀ (m j : Nat), m + j = n → pm_Go mA_fill K G 5 [some (.ref a), some (.int x), some (.int (nI j)), some (.int (nI n))] [] (h.set a (pm_i n (fun q => if q < j then x else f q))) 0 0 := by
    intro m
    induction m with
    | zero =>
      intro j hj
      have hj : j = n := by omega
      subst hj
      refine pm_iload_n dA_fill_5 rfl (q := 6) rfl ?_
      refine pm_iload_n dA_fill_6 rfl (q := 7) rfl ?_
      refine pm_icmp_ge (tgt := 20) dA_fill_7 rfl (q := 10) rfl (fun _ => ?_) (fun h7 => absurd (nI_le (Nat.le_refl _) hn) h7)
      refine pm_exti (f' := fun _ => x) (pm_get_set hh) (fun q hq => by simp [hq]) ?_
      exact pm_retV hret dA_fill_20 (by rw [List.set_set])
    | succ m ih =>
      intro j hj
      have hjn : j < n := by omega
      refine pm_iload_n dA_fill_5 rfl (q := 6) rfl ?_
      refine pm_iload_n dA_fill_6 rfl (q := 7) rfl ?_
      refine pm_icmp_ge (tgt := 20) dA_fill_7 rfl (q := 10) rfl (fun h7 => absurd h7 (nI_ge hjn hn)) (fun _ => ?_)
      refine pm_aload_n dA_fill_10 rfl (q := 11) rfl ?_
      refine pm_iload_n dA_fill_11 rfl (q := 12) rfl ?_
      refine pm_iload_n dA_fill_12 rfl (q := 13) rfl ?_
      refine pm_iast dA_fill_13 (pm_get_set hh) (vp_in_nI hjn hn) (q := 14) rfl ?_
      refine pm_iincL dA_fill_14 rfl (by decide) (y := nI (j + 1)) (by rw [nI_succ]; rfl) (q := 17) rfl ?_
      refine pm_goto (tgt := 5) dA_fill_17 rfl ?_
      have e9 : upd (fun q => if q < j then x else f q) (nI j).toNatClampNeg x = fun q => if q < j + 1 then x else f q := by
        funext q
        rw [nI_clamp (by omega)]
        unfold upd
        by_cases h1 : q = j
        · simp [h1]
        · have h2 : (q < j) = (q < j + 1) := by apply propext; omega
          simp [h1, h2]
      rw [List.set_set, e9]
      exact ih (j + 1) (by omega)
  refine pm_iconst (x := 0) dA_fill_0 (by decide) (q := 1) rfl ?_
  refine pm_istore_n dA_fill_1 (by decide) (q := 2) rfl ?_
  refine pm_aload_n dA_fill_2 rfl (q := 3) rfl ?_
  refine pm_ilen dA_fill_3 hh (q := 4) rfl ?_
  refine pm_istore_n dA_fill_4 (by decide) (q := 5) rfl ?_
  refine pm_heap (g := h.set a (pm_i n (fun q => if q < 0 then x else f q))) ?_ (hL n 0 (by omega))
  rw [show (fun q => if q < 0 then x else f q) = f from by funext q; simp]
  exact (pm_set_self hh).symm
def cH (pd : Int32) (si : Nat → Int32) (sa : Nat → Nat → Int32) (hv : Nat → Int32) (ha : Nat → Nat → Nat → Int32) (sl : Int32) (sc : Nat → Nat → Int32) (pl : Int32) (pa : Nat → Nat → Int32) (tl : pm_H) : pm_H :=
  pm_o 0 [.ref 1, .ref 8, .ref 12, .ref 16, .ref 21, .int pd] ::
  pm_o 1 [.int (si 0), .int (si 1), .int (si 2), .int (si 3), .int (si 4), .int (si 5), .ref 2, .int (si 7), .ref 3, .ref 4, .ref 5, .ref 6, .ref 7] ::
  pm_z 3 (sa 0) :: pm_i 5 (sa 1) :: pm_i 5 (sa 2) :: pm_i 5 (sa 3) :: pm_i 5 (sa 4) :: pm_z 5 (sa 5) ::
  pm_o 2 [.ref 1, .ref 9, .ref 10, .ref 11, .int (hv 0)] :: pm_i 9 (ha 0 0) :: pm_i 3 (ha 0 1) :: pm_i 3 (ha 0 2) ::
  pm_o 2 [.ref 1, .ref 13, .ref 14, .ref 15, .int (hv 1)] :: pm_i 9 (ha 1 0) :: pm_i 3 (ha 1 1) :: pm_i 3 (ha 1 2) ::
  pm_o 3 [.int sl, .ref 17, .ref 18, .ref 19, .ref 20] :: pm_i 30 (sc 0) :: pm_i 30 (sc 1) :: pm_i 30 (sc 2) :: pm_i 30 (sc 3) ::
  pm_o 4 [.ref 1, .ref 27, .ref 22, .ref 23, .int pl, .ref 24, .ref 25, .ref 26] :: pm_i 2016 (pa 0) :: pm_i 2016 (pa 1) :: pm_i 3 (pa 2) :: pm_i 3 (pa 3) :: pm_i 3 (pa 4) ::
  pm_o 2 [.ref 1, .ref 28, .ref 29, .ref 30, .int (hv 2)] :: pm_i 9 (ha 2 0) :: pm_i 3 (ha 2 1) :: pm_i 3 (ha 2 2) :: tl
def up1 {α : Type} (f : Nat → α) (k : Nat) (v : α) : Nat → α := fun j => if j = k then v else f j
def fw (x a b : Int32) : Int32 := if a ≤ x ∧ x ≤ b then 1 else 0
theorem fw_b (x a b : Int32) : narrow .boolean (.int (fw x a b)) = .int (fw x a b) := by
  unfold fw; split <;> rfl
theorem fw_1 {x a b : Int32} (h2 : ¬ x < a) (h7 : ¬ b < x) : 1 = fw x a b := by
  unfold fw; rw [if_pos ⟨Int32.not_lt.mp h2, Int32.not_lt.mp h7⟩]
theorem fw_2 {x a b : Int32} (h2 : x < a) : 0 = fw x a b := by
  unfold fw; rw [if_neg (fun z => Int32.not_lt.mpr z.1 h2)]
theorem fw_3 {x a b : Int32} (h2 : b < x) : 0 = fw x a b := by
  unfold fw; rw [if_neg (fun z => Int32.not_lt.mpr z.2 h2)]
set_option maxHeartbeats 2000000 in
theorem kB_within {l : Launch} (hl : l.stackTraces = false) (d : Nat) (x a b : Int32) (h : pm_H) : pm_Sem l d mB_within [.int x, .int a, .int b] h (some (.int (fw x a b))) h := by
  refine pm_sem hl mo_B_within ⟨_, rfl, fw_b x a b⟩ rfl rfl (Nat.le_of_ble_eq_true rfl) (fun K G hK hret => ?_)
  refine pm_iload_n dB_within_0 rfl (q := 1) rfl ?_
  refine pm_iload_n dB_within_1 rfl (q := 2) rfl ?_
  refine pm_icmp_gt (tgt := 14) dB_within_2 rfl (q := 5) rfl (fun h2 => ?_) (fun h2 => ?_)
  · refine pm_iconst (x := 0) dB_within_14 (by decide) (q := 15) rfl ?_
    exact pm_retI hret dB_within_15 (by first | exact fw_1 h2 h7 | exact fw_2 h2 | exact fw_3 h7)
  · refine pm_iload_n dB_within_5 rfl (q := 6) rfl ?_
    refine pm_iload_n dB_within_6 rfl (q := 7) rfl ?_
    refine pm_icmp_gt (tgt := 14) dB_within_7 rfl (q := 10) rfl (fun h7 => ?_) (fun h7 => ?_)
    · refine pm_iconst (x := 0) dB_within_14 (by decide) (q := 15) rfl ?_
      exact pm_retI hret dB_within_15 (by first | exact fw_1 h2 h7 | exact fw_2 h2 | exact fw_3 h7)
    · refine pm_iconst (x := 1) dB_within_10 (by decide) (q := 11) rfl ?_
      refine pm_goto (tgt := 15) dB_within_11 rfl ?_
      exact pm_retI hret dB_within_15 (by first | exact fw_1 h2 h7 | exact fw_2 h2 | exact fw_3 h7)
set_option maxHeartbeats 2000000 in
theorem kT_clear {l : Launch} (hl : l.stackTraces = false) (d : Nat) {pd : Int32} {si : Nat → Int32} {sa : Nat → Nat → Int32} {hv : Nat → Int32} {ha : Nat → Nat → Nat → Int32} {sl : Int32} {sc : Nat → Nat → Int32} {pl : Int32} {pa : Nat → Nat → Int32} {tl : pm_H} : pm_Sem l d mT_clear [.ref 16] (cH pd si sa hv ha sl sc pl pa tl) none (cH pd si sa hv ha 0 sc pl pa tl) := by
  refine pm_sem hl mo_T_clear rfl rfl rfl (Nat.le_of_ble_eq_true rfl) (fun K G hK hret => ?_)
  refine pm_aload_n dT_clear_0 rfl (q := 1) rfl ?_
  refine pm_iconst (x := 0) dT_clear_1 (by decide) (q := 2) rfl ?_
  refine pm_put fp_T_24 dT_clear_2 rfl (Nat.le_of_ble_eq_true rfl) (fun _ => rfl) (fun _ => rfl) (q := 5) rfl ?_
  exact pm_retV hret dT_clear_5 rfl
set_option maxHeartbeats 2000000 in
theorem kT_has {l : Launch} (hl : l.stackTraces = false) (d : Nat) (hd : 1 ≤ d) {pd : Int32} {si : Nat → Int32} {sa : Nat → Nat → Int32} {hv : Nat → Int32} {ha : Nat → Nat → Nat → Int32} {sl : Int32} {sc : Nat → Nat → Int32} {pl : Int32} {pa : Nat → Nat → Int32} {tl : pm_H} (x : Int32) : pm_Sem l d mT_has [.ref 16, .int x] (cH pd si sa hv ha sl sc pl pa tl) (some (.int (fw x 0 (sl - 1)))) (cH pd si sa hv ha sl sc pl pa tl) := by
  refine pm_sem hl mo_T_has ⟨_, rfl, fw_b _ _ _⟩ rfl rfl (Nat.le_of_ble_eq_true rfl) (fun K G hK hret => ?_)
  refine pm_iload_n dT_has_0 rfl (q := 1) rfl ?_
  refine pm_iconst (x := 0) dT_has_1 (by decide) (q := 2) rfl ?_
  refine pm_aload_n dT_has_2 rfl (q := 3) rfl ?_
  refine pm_get fl_T_24 dT_has_3 rfl rfl (q := 6) rfl ?_
  refine pm_iconst (x := 1) dT_has_6 (by decide) (q := 7) rfl ?_
  refine pm_isub dT_has_7 (q := 8) rfl ?_
  refine pm_cS3i hK (kB_within hl 0 _ _ _ _) mo_B_within st_B_within lk_T_28 dT_has_8 (by omega) (Nat.le_of_ble_eq_true rfl) (Nat.zero_le _) (Nat.zero_le _) (q := 11) rfl ?_
  exact pm_retI hret dT_has_11 rfl
def ne1 (x : Int32) : Int32 := if x = -1 then 0 else 1
theorem ne1_b (x : Int32) : narrow .boolean (.int (ne1 x)) = .int (ne1 x) := by
  unfold ne1; split <;> rfl
set_option maxHeartbeats 2000000 in
theorem kT_putsOn {l : Launch} (hl : l.stackTraces = false) (d : Nat) {pd : Int32} {si : Nat → Int32} {sa : Nat → Nat → Int32} {hv : Nat → Int32} {ha : Nat → Nat → Nat → Int32} {sl : Int32} {sc : Nat → Nat → Int32} {pl : Int32} {pa : Nat → Nat → Int32} {tl : pm_H} (x : Int32) (hx : vp_in x 30) : pm_Sem l d mT_putsOn [.ref 16, .int x] (cH pd si sa hv ha sl sc pl pa tl) (some (.int (ne1 (sc 3 x.toNatClampNeg)))) (cH pd si sa hv ha sl sc pl pa tl) := by
  refine pm_sem hl mo_T_putsOn ⟨_, rfl, ne1_b _⟩ rfl rfl (Nat.le_of_ble_eq_true rfl) (fun K G hK hret => ?_)
  refine pm_aload_n dT_putsOn_0 rfl (q := 1) rfl ?_
  refine pm_get fl_T_21 dT_putsOn_1 rfl rfl (q := 4) rfl ?_
  refine pm_iload_n dT_putsOn_4 rfl (q := 5) rfl ?_
  refine pm_iald dT_putsOn_5 rfl (hx) (q := 6) rfl ?_
  refine pm_iconst (x := -1) dT_putsOn_6 (by decide) (q := 7) rfl ?_
  refine pm_icmp_eq (tgt := 14) dT_putsOn_7 rfl (q := 10) rfl (fun h7 => ?_) (fun h7 => ?_)
  · refine pm_iconst (x := 0) dT_putsOn_14 (by decide) (q := 15) rfl ?_
    exact pm_retI hret dT_putsOn_15 (by simp [ne1, h7])
  · refine pm_iconst (x := 1) dT_putsOn_10 (by decide) (q := 11) rfl ?_
    refine pm_goto (tgt := 15) dT_putsOn_11 rfl ?_
    exact pm_retI hret dT_putsOn_15 (by simp [ne1, h7])
set_option maxHeartbeats 2000000 in
theorem kT_add {l : Launch} (hl : l.stackTraces = false) (d : Nat) {pd : Int32} {si : Nat → Int32} {sa : Nat → Nat → Int32} {hv : Nat → Int32} {ha : Nat → Nat → Nat → Int32} {sl : Int32} {sc : Nat → Nat → Int32} {pl : Int32} {pa : Nat → Nat → Int32} {tl : pm_H} (b q f o : Int32) (h30 : sl < 30) (hx : vp_in sl 30) : pm_Sem l d mT_add [.ref 16, .int b, .int q, .int f, .int o] (cH pd si sa hv ha sl sc pl pa tl) none (cH pd si sa hv ha (sl + 1) (fun j => upd (sc j) sl.toNatClampNeg (if j = 0 then b else if j = 1 then q else if j = 2 then f else o)) pl pa tl) := by
  refine pm_sem hl mo_T_add rfl rfl rfl (Nat.le_of_ble_eq_true rfl) (fun K G hK hret => ?_)
  refine pm_aload_n dT_add_0 rfl (q := 1) rfl ?_
  refine pm_get fl_T_24 dT_add_1 rfl rfl (q := 4) rfl ?_
  refine pm_bipush (x := 30) dT_add_4 (by decide) (q := 6) rfl ?_
  refine pm_icmp_ge (tgt := 60) dT_add_6 rfl (q := 9) rfl (fun z => absurd h30 (Int32.not_lt.mpr z)) (fun _ => ?_)
  refine pm_aload_n dT_add_9 rfl (q := 10) rfl ?_
  refine pm_get fl_T_11 dT_add_10 rfl rfl (q := 13) rfl ?_
  refine pm_aload_n dT_add_13 rfl (q := 14) rfl ?_
  refine pm_get fl_T_24 dT_add_14 rfl rfl (q := 17) rfl ?_
  refine pm_iload_n dT_add_17 rfl (q := 18) rfl ?_
  refine pm_iast dT_add_18 rfl (hx) (q := 19) rfl ?_
  refine pm_aload_n dT_add_19 rfl (q := 20) rfl ?_
  refine pm_get fl_T_15 dT_add_20 rfl rfl (q := 23) rfl ?_
  refine pm_aload_n dT_add_23 rfl (q := 24) rfl ?_
  refine pm_get fl_T_24 dT_add_24 rfl rfl (q := 27) rfl ?_
  refine pm_iload_n dT_add_27 rfl (q := 28) rfl ?_
  refine pm_iast dT_add_28 rfl (hx) (q := 29) rfl ?_
  refine pm_aload_n dT_add_29 rfl (q := 30) rfl ?_
  refine pm_get fl_T_18 dT_add_30 rfl rfl (q := 33) rfl ?_
  refine pm_aload_n dT_add_33 rfl (q := 34) rfl ?_
  refine pm_get fl_T_24 dT_add_34 rfl rfl (q := 37) rfl ?_
  refine pm_iload_n dT_add_37 rfl (q := 38) rfl ?_
  refine pm_iast dT_add_38 rfl (hx) (q := 39) rfl ?_
  refine pm_aload_n dT_add_39 rfl (q := 40) rfl ?_
  refine pm_get fl_T_21 dT_add_40 rfl rfl (q := 43) rfl ?_
  refine pm_aload_n dT_add_43 rfl (q := 44) rfl ?_
  refine pm_get fl_T_24 dT_add_44 rfl rfl (q := 47) rfl ?_
  refine pm_iload dT_add_47 rfl (q := 49) rfl ?_
  refine pm_iast dT_add_49 rfl (hx) (q := 50) rfl ?_
  refine pm_aload_n dT_add_50 rfl (q := 51) rfl ?_
  refine pm_dup dT_add_51 rfl (q := 52) rfl ?_
  refine pm_get fl_T_24 dT_add_52 rfl rfl (q := 55) rfl ?_
  refine pm_iconst (x := 1) dT_add_55 (by decide) (q := 56) rfl ?_
  refine pm_iadd dT_add_56 (q := 57) rfl ?_
  refine pm_put fp_T_24 dT_add_57 rfl (Nat.le_of_ble_eq_true rfl) (fun _ => rfl) (fun _ => rfl) (q := 60) rfl ?_
  exact pm_retV hret dT_add_60 rfl
set_option maxHeartbeats 2000000 in
theorem kS_hasStack {l : Launch} (hl : l.stackTraces = false) (d : Nat) (hd : 1 ≤ d) {pd : Int32} {si : Nat → Int32} {sa : Nat → Nat → Int32} {hv : Nat → Int32} {ha : Nat → Nat → Nat → Int32} {sl : Int32} {sc : Nat → Nat → Int32} {pl : Int32} {pa : Nat → Nat → Int32} {tl : pm_H} (x : Int32) : pm_Sem l d mS_hasStack [.ref 1, .int x] (cH pd si sa hv ha sl sc pl pa tl) (some (.int (fw x 0 (si 0 - 1)))) (cH pd si sa hv ha sl sc pl pa tl) := by
  refine pm_sem hl mo_S_hasStack ⟨_, rfl, fw_b _ _ _⟩ rfl rfl (Nat.le_of_ble_eq_true rfl) (fun K G hK hret => ?_)
  refine pm_iload_n dS_hasStack_0 rfl (q := 1) rfl ?_
  refine pm_iconst (x := 0) dS_hasStack_1 (by decide) (q := 2) rfl ?_
  refine pm_aload_n dS_hasStack_2 rfl (q := 3) rfl ?_
  refine pm_get fl_S_31 dS_hasStack_3 rfl rfl (q := 6) rfl ?_
  refine pm_iconst (x := 1) dS_hasStack_6 (by decide) (q := 7) rfl ?_
  refine pm_isub dS_hasStack_7 (q := 8) rfl ?_
  refine pm_cS3i hK (kB_within hl 0 _ _ _ _) mo_B_within st_B_within lk_S_53 dS_hasStack_8 (by omega) (Nat.le_of_ble_eq_true rfl) (Nat.zero_le _) (Nat.zero_le _) (q := 11) rfl ?_
  exact pm_retI hret dS_hasStack_11 rfl
set_option maxHeartbeats 2000000 in
theorem kS_hasPort {l : Launch} (hl : l.stackTraces = false) (d : Nat) (hd : 1 ≤ d) {pd : Int32} {si : Nat → Int32} {sa : Nat → Nat → Int32} {hv : Nat → Int32} {ha : Nat → Nat → Nat → Int32} {sl : Int32} {sc : Nat → Nat → Int32} {pl : Int32} {pa : Nat → Nat → Int32} {tl : pm_H} (x : Int32) : pm_Sem l d mS_hasPort [.ref 1, .int x] (cH pd si sa hv ha sl sc pl pa tl) (some (.int (fw x 0 (si 2 - 1)))) (cH pd si sa hv ha sl sc pl pa tl) := by
  refine pm_sem hl mo_S_hasPort ⟨_, rfl, fw_b _ _ _⟩ rfl rfl (Nat.le_of_ble_eq_true rfl) (fun K G hK hret => ?_)
  refine pm_iload_n dS_hasPort_0 rfl (q := 1) rfl ?_
  refine pm_iconst (x := 0) dS_hasPort_1 (by decide) (q := 2) rfl ?_
  refine pm_aload_n dS_hasPort_2 rfl (q := 3) rfl ?_
  refine pm_get fl_S_38 dS_hasPort_3 rfl rfl (q := 6) rfl ?_
  refine pm_iconst (x := 1) dS_hasPort_6 (by decide) (q := 7) rfl ?_
  refine pm_isub dS_hasPort_7 (q := 8) rfl ?_
  refine pm_cS3i hK (kB_within hl 0 _ _ _ _) mo_B_within st_B_within lk_S_53 dS_hasPort_8 (by omega) (Nat.le_of_ble_eq_true rfl) (Nat.zero_le _) (Nat.zero_le _) (q := 11) rfl ?_
  exact pm_retI hret dS_hasPort_11 rfl
set_option maxHeartbeats 2000000 in
theorem kS_departures {l : Launch} (hl : l.stackTraces = false) (d : Nat) {pd : Int32} {si : Nat → Int32} {sa : Nat → Nat → Int32} {hv : Nat → Int32} {ha : Nat → Nat → Nat → Int32} {sl : Int32} {sc : Nat → Nat → Int32} {pl : Int32} {pa : Nat → Nat → Int32} {tl : pm_H} : pm_Sem l d mS_departures [.ref 1] (cH pd si sa hv ha sl sc pl pa tl) (some (.int (si 2 - 1))) (cH pd si sa hv ha sl sc pl pa tl) := by
  refine pm_sem hl mo_S_departures ⟨_, rfl, rfl⟩ rfl rfl (Nat.le_of_ble_eq_true rfl) (fun K G hK hret => ?_)
  refine pm_aload_n dS_departures_0 rfl (q := 1) rfl ?_
  refine pm_get fl_S_38 dS_departures_1 rfl rfl (q := 4) rfl ?_
  refine pm_iconst (x := 1) dS_departures_4 (by decide) (q := 5) rfl ?_
  refine pm_isub dS_departures_5 (q := 6) rfl ?_
  exact pm_retI hret dS_departures_6 rfl
