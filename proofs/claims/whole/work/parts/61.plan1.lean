/-! the class: an arrangement's list -/
def paW (pa : Nat → Nat → Int32) (n : Nat) (xs : List pL) : Nat → Nat → Int32 := up1 pa 0 (lsW (pa 0) n (xs.map cC))
theorem up1_same {α : Type} (f : Nat → α) (k : Nat) : up1 f k (f k) = f := by
  funext j
  unfold up1
  by_cases h : j = k
  · rw [if_pos h, h]
  · rw [if_neg h]
theorem paW_nil (pa : Nat → Nat → Int32) (n : Nat) : paW pa n [] = pa := up1_same pa 0
theorem paW_app (pa : Nat → Nat → Int32) (n : Nat) (xs ys : List pL) : paW (paW pa n xs) (n + xs.length) ys = paW pa n (xs ++ ys) := by
  unfold paW
  rw [up1_up1, List.map_append, lsW_app, List.length_map]
  rfl
def okC (si : Nat → Int32) (sa : Nat → Nat → Int32) (S : Nat) (du : Nat → Bool) (L : pL) : Bool := decide (wt5 du L = 0 ∧ ¬ fsound si (sM L) (fun s => nI (L s).length) (fun s => pW (sa 3) (L s)) sa (pV (sa 3) L) S = 0)
/-- the boxes that wait, a bit each -/
def wOk (w : Nat) (du : Nat → Bool) (L : pL) : Prop := w < 32 ∧ ∀ b, b < 5 → (w.testBit b = true ↔ du b = true ∧ ¬ pHas L b)
theorem wOk_zero {w : Nat} {du : Nat → Bool} {L : pL} (h : wOk w du L) : w = 0 ↔ wt5 du L = 0 := by
  rw [msk_eq h.1 (by decide)]
  unfold wt5
  rw [List.countP_eq_zero]
  constructor
  · intro z b hb
    have hb := List.mem_range.mp hb
    have := (z b hb).mp
    rw [h.2 b hb] at this
    intro y
    rw [Bool.and_eq_true, Bool.not_eq_true', decide_eq_false_iff_not] at y
    have := this y
    simp at this
  · intro z b hb
    rw [h.2 b hb]
    have := z b (List.mem_range.mpr hb)
    rw [Bool.and_eq_true, Bool.not_eq_true', decide_eq_false_iff_not] at this
    exact ⟨fun y => absurd y this, fun y => by simp at y⟩
theorem mk_out : ∀ m : Fin 32, ∀ c : Fin 5, nI m.val &&& (((1 : Int32) <<< (nI c.val &&& 31)) ^^^ (-1)) = nI (m.val &&& (31 ^^^ 2 ^ c.val)) ∧ m.val &&& (31 ^^^ 2 ^ c.val) < 32 := by decide
theorem mk_outb : ∀ m : Fin 32, ∀ c b : Fin 5, (m.val &&& (31 ^^^ 2 ^ c.val)).testBit b.val = (m.val.testBit b.val && !decide (b.val = c.val)) := by decide
theorem wOk_put {w s b : Nat} {du : Nat → Bool} {L : pL} (h : wOk w du L) (hs : s < 3) (hb : b < 5) : wOk (w &&& (31 ^^^ 2 ^ b)) du (pPut L s b) := by
  refine ⟨(mk_out ⟨w, h.1⟩ ⟨b, hb⟩).2, fun c hc => ?_⟩
  have e := mk_outb ⟨w, h.1⟩ ⟨b, hb⟩ ⟨c, hc⟩
  dsimp only at e
  rw [e, Bool.and_eq_true, Bool.not_eq_true', decide_eq_false_iff_not, h.2 c hc]
  have q : pHas (pPut L s b) c ↔ pHas L c ∨ c = b := by
    rw [ct_has, ct_has, ct_put hs]
    by_cases z : c = b
    · rw [if_pos z]
      exact ⟨fun _ => Or.inr z, fun _ => by omega⟩
    · rw [if_neg z]
      exact ⟨fun y => Or.inl y, fun y => by rcases y with y | y; exact y; exact absurd y z⟩
  rw [q]
  constructor
  · rintro ⟨⟨h1, h2⟩, h3⟩
    exact ⟨h1, fun z => by rcases z with z | z; exact h2 z; exact h3 z⟩
  · rintro ⟨h1, h2⟩
    exact ⟨⟨h1, fun z => h2 (Or.inl z)⟩, fun z => h2 (Or.inr z)⟩
theorem pPut_at (L : pL) (s b : Nat) : pPut L s b s = L s ++ [b] := by
  unfold pPut up1
  rw [if_pos rfl]
theorem pPut_pop (L : pL) (s b : Nat) : up1 (pPut L s b) s (pPut L s b s).dropLast = L := by
  rw [pPut_at, List.dropLast_concat]
  unfold pPut
  rw [up1_up1, up1_same]
set_option maxHeartbeats 4000000 in
theorem kP_listBehind_on {l : Launch} (hl : l.stackTraces = false) (d : Nat) {pd : Int32} {si : Nat → Int32} {sa : Nat → Nat → Int32} {hv : Nat → Int32} {ha : Nat → Nat → Nat → Int32} {sl : Int32} {sc : Nat → Nat → Int32} {pl : Int32} {pa : Nat → Nat → Int32} {tl : pm_H} {h2 : pm_H} (s w : Nat) {S : Nat} (hS : si 0 = nI S) (hS3 : S ≤ 3) (hs : s + 1 < S) (hF : pm_Sem l d mP_listFrom [.ref 21, .int (nI (s + 1)), .int (nI w)] (cH pd si sa hv ha sl sc pl pa tl) none h2) : pm_Sem l (d + 1) mP_listBehind [.ref 21, .int (nI s), .int (nI w)] (cH pd si sa hv ha sl sc pl pa tl) none h2 := by
  refine pm_sem hl mo_P_listBehind rfl rfl rfl (Nat.le_of_ble_eq_true rfl) (fun K G hK hret => ?_)
  refine pm_iload_n dP_listBehind_0 rfl (q := 1) rfl ?_
  refine pm_iconst (x := 1) dP_listBehind_1 (by decide) (q := 2) rfl ?_
  refine pm_iadd dP_listBehind_2 (q := 3) rfl ?_
  refine pm_topL (y := nI (s + 1)) (nI_succ s).symm ?_
  refine pm_aload_n dP_listBehind_3 rfl (q := 4) rfl ?_
  refine pm_get fl_P_27 dP_listBehind_4 rfl rfl (q := 7) rfl ?_
  refine pm_get fl_P_59 dP_listBehind_7 rfl rfl (q := 10) rfl ?_
  refine pm_icmp_ge (tgt := 24) dP_listBehind_10 rfl (q := 13) rfl (fun z => absurd z (by rw [hS]; exact nI_ge (by omega) (by omega))) (fun _ => ?_)
  refine pm_aload_n dP_listBehind_13 rfl (q := 14) rfl ?_
  refine pm_iload_n dP_listBehind_14 rfl (q := 15) rfl ?_
  refine pm_iconst (x := 1) dP_listBehind_15 (by decide) (q := 16) rfl ?_
  refine pm_iadd dP_listBehind_16 (q := 17) rfl ?_
  refine pm_topL (y := nI (s + 1)) (nI_succ s).symm ?_
  refine pm_iload_n dP_listBehind_17 rfl (q := 18) rfl ?_
  refine pm_cV2v hK (hF) mo_P_listFrom im_P_listFrom se_P_listFrom lk_P_93 dP_listBehind_18 (by omega) (Nat.le_of_ble_eq_true rfl) (Nat.zero_le _) (Nat.zero_le _) rfl rfl rfl (q := 21) rfl ?_
  refine pm_goto (tgt := 74) dP_listBehind_21 rfl ?_
  exact pm_retV hret dP_listBehind_74 rfl
set_option maxHeartbeats 4000000 in
theorem kP_listBehind_end {l : Launch} (hl : l.stackTraces = false) (d : Nat) (hd : 3 ≤ d) {pd : Int32} {si : Nat → Int32} {sa : Nat → Nat → Int32} {hv : Nat → Int32} {ha : Nat → Nat → Nat → Int32} {sl : Int32} {sc : Nat → Nat → Int32} {pa : Nat → Nat → Int32} {tl : pm_H} (s w n : Nat) {S T : Nat} {du : Nat → Bool} {L : pL} (hS : si 0 = nI S) (hS3 : S ≤ 3) (hs : S = s + 1) (hL : pOk L T) (hT3 : T ≤ 3) (hw : wOk w du L) (hD : ha 2 = cA (sa 3) L) (hV : hv 2 = pV (sa 3) L) (hn : n + (if okC si sa S du L = true then [L] else []).length ≤ 2016) : pm_Sem l d mP_listBehind [.ref 21, .int (nI s), .int (nI w)] (cH pd si sa hv ha sl sc (nI n) pa tl) none (cH pd si sa hv ha sl sc (nI (n + (if okC si sa S du L = true then [L] else []).length)) (paW pa n (if okC si sa S du L = true then [L] else [])) tl) := by
  refine pm_sem hl mo_P_listBehind rfl rfl rfl (Nat.le_of_ble_eq_true rfl) (fun K G hK hret => ?_)
  have HA : HoldAt (cH pd si sa hv ha sl sc (nI n) pa tl) 27 si sa (pV (sa 3) L) (sM L) (fun s => nI (L s).length) (fun s => pW (sa 3) (L s)) := by
    have := cH_hold2 (pd := pd) (si := si) (sa := sa) (hv := hv) (ha := ha) (sl := sl) (sc := sc) (pl := nI n) (pa := pa) (tl := tl)
    rw [hD, hV] at this
    exact this
  have w32 := hw.1
  by_cases hw0 : w = 0
  · by_cases ok : okC si sa S du L = true
    · rw [if_pos ok] at hret hn
      have hso := (of_decide_eq_true ok).2
      have hn6 : n < 2016 := by rw [List.length_singleton] at hn; omega
      refine pm_iload_n dP_listBehind_0 rfl (q := 1) rfl ?_
      refine pm_iconst (x := 1) dP_listBehind_1 (by decide) (q := 2) rfl ?_
      refine pm_iadd dP_listBehind_2 (q := 3) rfl ?_
      refine pm_topL (y := nI (s + 1)) (nI_succ s).symm ?_
      refine pm_aload_n dP_listBehind_3 rfl (q := 4) rfl ?_
      refine pm_get fl_P_27 dP_listBehind_4 rfl rfl (q := 7) rfl ?_
      refine pm_get fl_P_59 dP_listBehind_7 rfl rfl (q := 10) rfl ?_
      refine pm_icmp_ge (tgt := 24) dP_listBehind_10 rfl (q := 13) rfl (fun _ => ?_) (fun z => absurd (by rw [hS, hs]; exact nI_le (Nat.le_refl _) (by omega)) z)
      refine pm_iload_n dP_listBehind_24 rfl (q := 25) rfl ?_
      refine pm_if_ne (tgt := 74) dP_listBehind_25 rfl (q := 28) rfl (fun z => absurd (by rw [hw0]; rfl) z) (fun _ => ?_)
      refine pm_aload_n dP_listBehind_28 rfl (q := 29) rfl ?_
      refine pm_get fl_P_79 dP_listBehind_29 rfl rfl (q := 32) rfl ?_
      refine pm_sipush (x := 2016) dP_listBehind_32 (by decide) (q := 35) rfl ?_
      refine pm_icmp_ge (tgt := 74) dP_listBehind_35 rfl (q := 38) rfl (fun z => absurd z (show ¬ nI 2016 ≤ nI n from nI_ge (by omega) (by omega))) (fun _ => ?_)
      refine pm_aload_n dP_listBehind_38 rfl (q := 39) rfl ?_
      refine pm_get fl_P_36 dP_listBehind_39 rfl rfl (q := 42) rfl ?_
      refine pm_cV0i hK (kH_isSound hl 2 (Nat.le_refl _) HA (hold_ok hL hT3 hS hS3)) mo_H_isSound im_H_isSound se_H_isSound lk_P_108 dP_listBehind_42 (by omega) (Nat.le_of_ble_eq_true rfl) (Nat.zero_le _) (Nat.zero_le _) rfl rfl rfl (q := 45) rfl ?_
      refine pm_if_eq (tgt := 74) dP_listBehind_45 rfl (q := 48) rfl (fun z => absurd z hso) (fun _ => ?_)
      refine pm_aload_n dP_listBehind_48 rfl (q := 49) rfl ?_
      refine pm_get fl_P_11 dP_listBehind_49 rfl rfl (q := 52) rfl ?_
      refine pm_aload_n dP_listBehind_52 rfl (q := 53) rfl ?_
      refine pm_get fl_P_79 dP_listBehind_53 rfl rfl (q := 56) rfl ?_
      refine pm_aload_n dP_listBehind_56 rfl (q := 57) rfl ?_
      refine pm_get fl_P_36 dP_listBehind_57 rfl rfl (q := 60) rfl ?_
      refine pm_cS1i hK (kC_of hl 0) mo_C_of st_C_of lk_P_112 dP_listBehind_60 (by omega) (Nat.le_of_ble_eq_true rfl) (Nat.zero_le _) (Nat.zero_le _) (q := 63) rfl ?_
      refine pm_topL (y := cC L) (by rw [hD]; exact fof_val hL) ?_
      refine pm_iastN dP_listBehind_63 rfl hn6 (Nat.le_of_ble_eq_true rfl) (q := 64) rfl ?_
      refine pm_aload_n dP_listBehind_64 rfl (q := 65) rfl ?_
      refine pm_dup dP_listBehind_65 rfl (q := 66) rfl ?_
      refine pm_get fl_P_79 dP_listBehind_66 rfl rfl (q := 69) rfl ?_
      refine pm_iconst (x := 1) dP_listBehind_69 (by decide) (q := 70) rfl ?_
      refine pm_iadd dP_listBehind_70 (q := 71) rfl ?_
      refine pm_topL (y := nI (n + 1)) (nI_succ n).symm ?_
      refine pm_put fp_P_79 dP_listBehind_71 rfl (Nat.le_of_ble_eq_true rfl) (fun _ => rfl) (fun _ => rfl) (q := 74) rfl ?_
      exact pm_retV hret dP_listBehind_74 rfl
    · rw [if_neg ok, paW_nil] at hret
      have nso : fsound si (sM L) (fun s => nI (L s).length) (fun s => pW (sa 3) (L s)) sa (pV (sa 3) L) S = 0 := by
        by_cases z : fsound si (sM L) (fun s => nI (L s).length) (fun s => pW (sa 3) (L s)) sa (pV (sa 3) L) S = 0
        · exact z
        · exact absurd (decide_eq_true ⟨(wOk_zero hw).mp hw0, z⟩) ok
      have hso := nso
      have hn7 : n ≤ 2016 := by omega
      by_cases hn6 : n < 2016
      · skip
        refine pm_iload_n dP_listBehind_0 rfl (q := 1) rfl ?_
        refine pm_iconst (x := 1) dP_listBehind_1 (by decide) (q := 2) rfl ?_
        refine pm_iadd dP_listBehind_2 (q := 3) rfl ?_
        refine pm_topL (y := nI (s + 1)) (nI_succ s).symm ?_
        refine pm_aload_n dP_listBehind_3 rfl (q := 4) rfl ?_
        refine pm_get fl_P_27 dP_listBehind_4 rfl rfl (q := 7) rfl ?_
        refine pm_get fl_P_59 dP_listBehind_7 rfl rfl (q := 10) rfl ?_
        refine pm_icmp_ge (tgt := 24) dP_listBehind_10 rfl (q := 13) rfl (fun _ => ?_) (fun z => absurd (by rw [hS, hs]; exact nI_le (Nat.le_refl _) (by omega)) z)
        refine pm_iload_n dP_listBehind_24 rfl (q := 25) rfl ?_
        refine pm_if_ne (tgt := 74) dP_listBehind_25 rfl (q := 28) rfl (fun z => absurd (by rw [hw0]; rfl) z) (fun _ => ?_)
        refine pm_aload_n dP_listBehind_28 rfl (q := 29) rfl ?_
        refine pm_get fl_P_79 dP_listBehind_29 rfl rfl (q := 32) rfl ?_
        refine pm_sipush (x := 2016) dP_listBehind_32 (by decide) (q := 35) rfl ?_
        refine pm_icmp_ge (tgt := 74) dP_listBehind_35 rfl (q := 38) rfl (fun z => absurd z (show ¬ nI 2016 ≤ nI n from nI_ge (by omega) (by omega))) (fun _ => ?_)
        refine pm_aload_n dP_listBehind_38 rfl (q := 39) rfl ?_
        refine pm_get fl_P_36 dP_listBehind_39 rfl rfl (q := 42) rfl ?_
        refine pm_cV0i hK (kH_isSound hl 2 (Nat.le_refl _) HA (hold_ok hL hT3 hS hS3)) mo_H_isSound im_H_isSound se_H_isSound lk_P_108 dP_listBehind_42 (by omega) (Nat.le_of_ble_eq_true rfl) (Nat.zero_le _) (Nat.zero_le _) rfl rfl rfl (q := 45) rfl ?_
        refine pm_if_eq (tgt := 74) dP_listBehind_45 rfl (q := 48) rfl (fun _ => ?_) (fun z => absurd hso z)
        exact pm_retV hret dP_listBehind_74 rfl
      · skip
        refine pm_iload_n dP_listBehind_0 rfl (q := 1) rfl ?_
        refine pm_iconst (x := 1) dP_listBehind_1 (by decide) (q := 2) rfl ?_
        refine pm_iadd dP_listBehind_2 (q := 3) rfl ?_
        refine pm_topL (y := nI (s + 1)) (nI_succ s).symm ?_
        refine pm_aload_n dP_listBehind_3 rfl (q := 4) rfl ?_
        refine pm_get fl_P_27 dP_listBehind_4 rfl rfl (q := 7) rfl ?_
        refine pm_get fl_P_59 dP_listBehind_7 rfl rfl (q := 10) rfl ?_
        refine pm_icmp_ge (tgt := 24) dP_listBehind_10 rfl (q := 13) rfl (fun _ => ?_) (fun z => absurd (by rw [hS, hs]; exact nI_le (Nat.le_refl _) (by omega)) z)
        refine pm_iload_n dP_listBehind_24 rfl (q := 25) rfl ?_
        refine pm_if_ne (tgt := 74) dP_listBehind_25 rfl (q := 28) rfl (fun z => absurd (by rw [hw0]; rfl) z) (fun _ => ?_)
        refine pm_aload_n dP_listBehind_28 rfl (q := 29) rfl ?_
        refine pm_get fl_P_79 dP_listBehind_29 rfl rfl (q := 32) rfl ?_
        refine pm_sipush (x := 2016) dP_listBehind_32 (by decide) (q := 35) rfl ?_
        refine pm_icmp_ge (tgt := 74) dP_listBehind_35 rfl (q := 38) rfl (fun _ => ?_) (fun z => absurd (show nI 2016 ≤ nI n from nI_le (by omega) (by omega)) z)
        exact pm_retV hret dP_listBehind_74 rfl
  · have ok : ¬ okC si sa S du L = true := fun z => hw0 ((wOk_zero hw).mpr (of_decide_eq_true z).1)
    rw [if_neg ok, paW_nil] at hret
    refine pm_iload_n dP_listBehind_0 rfl (q := 1) rfl ?_
    refine pm_iconst (x := 1) dP_listBehind_1 (by decide) (q := 2) rfl ?_
    refine pm_iadd dP_listBehind_2 (q := 3) rfl ?_
    refine pm_topL (y := nI (s + 1)) (nI_succ s).symm ?_
    refine pm_aload_n dP_listBehind_3 rfl (q := 4) rfl ?_
    refine pm_get fl_P_27 dP_listBehind_4 rfl rfl (q := 7) rfl ?_
    refine pm_get fl_P_59 dP_listBehind_7 rfl rfl (q := 10) rfl ?_
    refine pm_icmp_ge (tgt := 24) dP_listBehind_10 rfl (q := 13) rfl (fun _ => ?_) (fun z => absurd (by rw [hS, hs]; exact nI_le (Nat.le_refl _) (by omega)) z)
    refine pm_iload_n dP_listBehind_24 rfl (q := 25) rfl ?_
    refine pm_if_ne (tgt := 74) dP_listBehind_25 rfl (q := 28) rfl (fun _ => ?_) (fun z => absurd (nI_inj (by omega) (by decide) (z.trans nI_0.symm)) hw0)
    exact pm_retV hret dP_listBehind_74 rfl
set_option maxHeartbeats 4000000 in
theorem kP_listWith {l : Launch} (hl : l.stackTraces = false) (d : Nat) {pd : Int32} {si : Nat → Int32} {sa : Nat → Nat → Int32} {hv : Nat → Int32} {ha : Nat → Nat → Nat → Int32} {sl : Int32} {sc : Nat → Nat → Int32} {pl : Int32} {pa : Nat → Nat → Int32} {tl : pm_H} {pl2 : Int32} {pa2 : Nat → Nat → Int32} (s b w : Nat) {L : pL} (hb : b < 5) (hs : s < 3) (h3 : (L s).length < 3) (hw : w < 32) (hD : ha 2 = cA (sa 3) L) (hV : hv 2 = pV (sa 3) L) (hF : pm_Sem l d mP_listFrom [.ref 21, .int (nI s), .int (nI (w &&& (31 ^^^ 2 ^ b)))] (cH pd si sa (up1 hv 2 (pV (sa 3) (pPut L s b))) (up1 ha 2 (cA (sa 3) (pPut L s b))) sl sc pl pa tl) none (cH pd si sa (up1 hv 2 (pV (sa 3) (pPut L s b))) (up1 ha 2 (cA (sa 3) (pPut L s b))) sl sc pl2 pa2 tl)) : pm_Sem l (d + 1) mP_listWith [.ref 21, .int (nI b), .int (nI s), .int (nI w)] (cH pd si sa hv ha sl sc pl pa tl) none (cH pd si sa hv ha sl sc pl2 pa2 tl) := by
  refine pm_sem hl mo_P_listWith rfl rfl rfl (Nat.le_of_ble_eq_true rfl) (fun K G hK hret => ?_)
  have hq : (L s ++ [b]).length = (L s).length + 1 := by rw [List.length_append, List.length_singleton]
  have hl1 : (pPut L s b s).getLast? = some b := by rw [pPut_at, List.getLast?_concat]
  have hl2 : (pPut L s b s).length = (L s).length + 1 := by rw [pPut_at, hq]
  have b1 : pV (sa 3) (pPut L s b) - sa 3 b * nI ((L s).length + 1) = hv 2 := by rw [pV_pop (sa 3) (pPut L s b) hs hl1 hl2, pPut_pop, hV]
  have b2 : unA (cA (sa 3) (pPut L s b)) (sa 3) s (L s).length b = ha 2 := by rw [unA_cA (sa 3) (pPut L s b) hl1 hl2 h3, pPut_pop, hD]
  have a1 : hv 2 + sa 3 b * nI ((L s).length + 1) = pV (sa 3) (pPut L s b) := by rw [hV]; exact (pV_push (sa 3) L hs b).symm
  have a2 : stA (ha 2) (sa 3) s (L s).length b = cA (sa 3) (pPut L s b) := by rw [hD]; exact stA_cA (sa 3) L b h3
  refine pm_aload_n dP_listWith_0 rfl (q := 1) rfl ?_
  refine pm_get fl_P_36 dP_listWith_1 rfl rfl (q := 4) rfl ?_
  refine pm_iload_n dP_listWith_4 rfl (q := 5) rfl ?_
  refine pm_iload_n dP_listWith_5 rfl (q := 6) rfl ?_
  refine pm_cV2v hK (kH_stow2 hl 0 b s (L s).length hb hs h3 (by rw [hD]; rfl)) mo_H_stow im_H_stow se_H_stow lk_P_116 dP_listWith_6 (by omega) (Nat.le_of_ble_eq_true rfl) (Nat.zero_le _) (Nat.zero_le _) rfl rfl rfl (q := 9) rfl ?_
  refine pm_heap (g := (cH pd si sa (up1 hv 2 (pV (sa 3) (pPut L s b))) (up1 ha 2 (cA (sa 3) (pPut L s b))) sl sc pl pa tl)) (by rw [a1, a2]) ?_
  refine pm_aload_n dP_listWith_9 rfl (q := 10) rfl ?_
  refine pm_iload_n dP_listWith_10 rfl (q := 11) rfl ?_
  refine pm_iload_n dP_listWith_11 rfl (q := 12) rfl ?_
  refine pm_iconst (x := 1) dP_listWith_12 (by decide) (q := 13) rfl ?_
  refine pm_iload_n dP_listWith_13 rfl (q := 14) rfl ?_
  refine pm_ishl dP_listWith_14 (q := 15) rfl ?_
  refine pm_iconst (x := -1) dP_listWith_15 (by decide) (q := 16) rfl ?_
  refine pm_ixor dP_listWith_16 (q := 17) rfl ?_
  refine pm_iand dP_listWith_17 (q := 18) rfl ?_
  refine pm_topL (y := nI (w &&& (31 ^^^ 2 ^ b))) (mk_out ⟨w, hw⟩ ⟨b, hb⟩).1 ?_
  refine pm_cV2v hK (hF) mo_P_listFrom im_P_listFrom se_P_listFrom lk_P_93 dP_listWith_18 (by omega) (Nat.le_of_ble_eq_true rfl) (Nat.zero_le _) (Nat.zero_le _) rfl rfl rfl (q := 21) rfl ?_
  refine pm_aload_n dP_listWith_21 rfl (q := 22) rfl ?_
  refine pm_get fl_P_36 dP_listWith_22 rfl rfl (q := 25) rfl ?_
  refine pm_iload_n dP_listWith_25 rfl (q := 26) rfl ?_
  refine pm_iload_n dP_listWith_26 rfl (q := 27) rfl ?_
  refine pm_cV2v hK (kH_unstow2 hl 0 b s (L s).length hb hs h3 (show nI (pPut L s b s).length = nI ((L s).length + 1) by rw [hl2])) mo_H_unstow im_H_unstow se_H_unstow lk_P_119 dP_listWith_27 (by omega) (Nat.le_of_ble_eq_true rfl) (Nat.zero_le _) (Nat.zero_le _) rfl rfl rfl (q := 30) rfl ?_
  exact pm_retV hret dP_listWith_30 (by rw [up1_up1, up1_up1]; show (cH pd si sa (up1 hv 2 (pV (sa 3) (pPut L s b) - sa 3 b * nI ((L s).length + 1))) (up1 ha 2 (unA (cA (sa 3) (pPut L s b)) (sa 3) s (L s).length b)) sl sc pl2 pa2 tl) = _; rw [b1, b2, up1_same, up1_same])
set_option maxHeartbeats 8000000 in
theorem kP_listFrom {l : Launch} (hl : l.stackTraces = false) {pd : Int32} {si : Nat → Int32} {sa : Nat → Nat → Int32} {sl : Int32} {sc : Nat → Nat → Int32} {tl : pm_H} {S T : Nat} (hS : si 0 = nI S) (hS1 : 1 ≤ S) (hS3 : S ≤ 3) (hT : si 1 = nI T) (hT3 : T ≤ 3) (du : Nat → Bool) : ∀ (m d : Nat), 2 * m + 4 ≤ d → ∀ (s w n : Nat) (L : pL) (hv : Nat → Int32) (ha : Nat → Nat → Nat → Int32) (pa : Nat → Nat → Int32), 4 * (3 - s) - (L s).length < m → s < S → pOk L T → (∀ r, s < r → L r = []) → wOk w du L → ha 2 = cA (sa 3) L → hv 2 = pV (sa 3) L → n + (eGo S T du (okC si sa S du) (9 - (3 * s + (L s).length)) L).length ≤ 2016 → pm_Sem l d mP_listFrom [.ref 21, .int (nI s), .int (nI w)] (cH pd si sa hv ha sl sc (nI n) pa tl) none (cH pd si sa hv ha sl sc (nI (n + (eGo S T du (okC si sa S du) (9 - (3 * s + (L s).length)) L).length)) (paW pa n (eGo S T du (okC si sa S du) (9 - (3 * s + (L s).length)) L)) tl) := by
  intro m
  induction m with
  | zero => intro d _ s w n L hv ha pa hm; omega
  | succ m ih =>
    intro d hd s w n L hv ha pa hm hsS hL hZ hw hD hV hn
    have hs3 : s < 3 := by omega
    have hlen := hL.len s
    have hB : n + (eGo S T du (okC si sa S du) (9 - 3 * (s + 1)) L).length ≤ 2016 → pm_Sem l (d - 1) mP_listBehind [.ref 21, .int (nI s), .int (nI w)] (cH pd si sa hv ha sl sc (nI n) pa tl) none (cH pd si sa hv ha sl sc (nI (n + (eGo S T du (okC si sa S du) (9 - 3 * (s + 1)) L).length)) (paW pa n (eGo S T du (okC si sa S du) (9 - 3 * (s + 1)) L)) tl) := by
      intro hn
      by_cases h1 : s + 1 < S
      · have z : L (s + 1) = [] := hZ _ (by omega)
        have := kP_listBehind_on hl (d - 2) s w hS hS3 h1 (ih (d - 2) (by omega) (s + 1) w n L hv ha pa (by rw [z, List.length_nil]; omega) h1 hL (fun r hr => hZ r (by omega)) hw hD hV (by rw [z, List.length_nil, Nat.add_zero]; exact hn))
        rw [z, List.length_nil, Nat.add_zero, show d - 2 + 1 = d - 1 by omega] at this
        exact this
      · have eX := eGo_end (S := S) (T := T) (du := du) (ok := (okC si sa S du)) (L := L) (3 - (s + 1)) (s + 1) (by omega) (by omega)
        rw [eX] at hn ⊢
        exact kP_listBehind_end hl (d - 1) (by omega) s w n hS hS3 (by omega) hL hT3 hw hD hV hn
    have HA : ∀ (pl : Int32) (pa : Nat → Nat → Int32), HoldAt (cH pd si sa hv ha sl sc pl pa tl) 27 si sa (pV (sa 3) L) (sM L) (fun s => nI (L s).length) (fun s => pW (sa 3) (L s)) := by
      intro pl pa
      have := cH_hold2 (pd := pd) (si := si) (sa := sa) (hv := hv) (ha := ha) (sl := sl) (sc := sc) (pl := pl) (pa := pa) (tl := tl)
      rw [hD, hV] at this
      exact this
    have eS : ¬ fw (nI s) 0 (si 0 - 1) = 0 := by rw [hS]; exact fun z => (fw_lt hs3 hS3 hS1).mp z hsS
    have v3 : vp_in (nI s) 3 := vp_in_nI hs3 (by decide)
    have cs : (nI s).toNatClampNeg = s := nI_clamp (by omega)
    refine pm_sem hl mo_P_listFrom rfl rfl rfl (Nat.le_of_ble_eq_true rfl) (fun K G hK hret => ?_)
    by_cases hr : (L s).length < T
    · have e := eGo_open (S := S) (T := T) (du := du) (ok := (okC si sa S du)) (L := L) (s := s) hs3 hsS hr hT3
      rw [e] at hn hret
      have rm : fhasRoom si (fun s => nI (L s).length) (nI s) = 1 := by
        unfold fhasRoom
        rw [if_neg eS, cs, hT, if_neg (nI_ge hr (by omega))]
      have hL5 : ∀ (k j : Nat), k + j = 5 → pm_Go mP_listFrom K G 19 [some (.ref 21), some (.int (nI s)), some (.int (nI w)), some (.int (nI j))] [] (cH pd si sa hv ha sl sc (nI (n + ((eGo S T du (okC si sa S du) (9 - 3 * (s + 1)) L) ++ (List.range j).flatMap (fun b => if du b = true ∧ ¬ pHas L b then eGo S T du (okC si sa S du) (9 - (3 * s + ((L s).length + 1))) (pPut L s b) else [])).length)) (paW pa n ((eGo S T du (okC si sa S du) (9 - 3 * (s + 1)) L) ++ (List.range j).flatMap (fun b => if du b = true ∧ ¬ pHas L b then eGo S T du (okC si sa S du) (9 - (3 * s + ((L s).length + 1))) (pPut L s b) else []))) tl) 0 0 := by
        intro k
        induction k with
        | zero =>
          intro j hj
          have hj : j = 5 := by omega
          subst hj
          refine pm_iload_n dP_listFrom_19 rfl (q := 20) rfl ?_
          refine pm_iconst (x := 5) dP_listFrom_20 (by decide) (q := 21) rfl ?_
          refine pm_icmp_ge (tgt := 46) dP_listFrom_21 rfl (q := 24) rfl (fun _ => ?_) (fun z => absurd (show nI 5 ≤ nI 5 from nI_le (Nat.le_refl _) (by decide)) z)
          exact pm_retV hret dP_listFrom_46 rfl
        | succ k ihk =>
          intro j hj
          have hj5 : j < 5 := by omega
          have es : ((eGo S T du (okC si sa S du) (9 - 3 * (s + 1)) L) ++ (List.range (j + 1)).flatMap (fun b => if du b = true ∧ ¬ pHas L b then eGo S T du (okC si sa S du) (9 - (3 * s + ((L s).length + 1))) (pPut L s b) else [])) = ((eGo S T du (okC si sa S du) (9 - 3 * (s + 1)) L) ++ (List.range j).flatMap (fun b => if du b = true ∧ ¬ pHas L b then eGo S T du (okC si sa S du) (9 - (3 * s + ((L s).length + 1))) (pPut L s b) else [])) ++ (fun b => if du b = true ∧ ¬ pHas L b then eGo S T du (okC si sa S du) (9 - (3 * s + ((L s).length + 1))) (pPut L s b) else []) j := by
            rw [List.range_succ, List.flatMap_append, List.flatMap_singleton, List.append_assoc]
          have hbit : ((nI w >>> (nI j &&& 31)) &&& 1 = 1) = (w.testBit j = true) := mk_bit ⟨w, hw.1⟩ ⟨j, hj5⟩
          have nx := ihk (j + 1) (by omega)
          rw [es] at nx
          by_cases hq : du j = true ∧ ¬ pHas L j
          · have b1 : (nI w >>> (nI j &&& 31)) &&& 1 = 1 := by rw [hbit]; exact (hw.2 j hj5).mpr hq
            dsimp only at nx
            rw [if_pos hq] at nx
            have hle : n + (((eGo S T du (okC si sa S du) (9 - 3 * (s + 1)) L) ++ (List.range j).flatMap (fun b => if du b = true ∧ ¬ pHas L b then eGo S T du (okC si sa S du) (9 - (3 * s + ((L s).length + 1))) (pPut L s b) else [])) ++ (fun b => if du b = true ∧ ¬ pHas L b then eGo S T du (okC si sa S du) (9 - (3 * s + ((L s).length + 1))) (pPut L s b) else []) j).length ≤ 2016 := by
              rw [← es]
              refine Nat.le_trans ?_ hn
              refine Nat.add_le_add_left ?_ n
              rw [List.length_append, List.length_append]
              refine Nat.add_le_add_left ?_ _
              have sb : List.Sublist ((List.range (j + 1)).flatMap (fun b => if du b = true ∧ ¬ pHas L b then eGo S T du (okC si sa S du) (9 - (3 * s + ((L s).length + 1))) (pPut L s b) else [])) ((List.range 5).flatMap (fun b => if du b = true ∧ ¬ pHas L b then eGo S T du (okC si sa S du) (9 - (3 * s + ((L s).length + 1))) (pPut L s b) else [])) := by
                have e5 : List.range 5 = List.range (j + 1) ++ (List.range (4 - j)).map (fun x => (j + 1) + x) := by
                  rw [← List.range_add, show j + 1 + (4 - j) = 5 by omega]
                rw [e5, List.flatMap_append]
                exact List.sublist_append_left _ _
              exact sb.length_le
            dsimp only at hle
            rw [if_pos hq] at hle
            have pz : (pPut L s j s).length = (L s).length + 1 := by rw [pPut_at, List.length_append, List.length_singleton]
            have w2 := kP_listWith (hv := hv) (ha := ha) hl (d - 2) s j w (L := L) hj5 hs3 (by omega) hw.1 hD hV (by
              have i := ih (d - 2) (by omega) s (w &&& (31 ^^^ 2 ^ j)) (n + ((eGo S T du (okC si sa S du) (9 - 3 * (s + 1)) L) ++ (List.range j).flatMap (fun b => if du b = true ∧ ¬ pHas L b then eGo S T du (okC si sa S du) (9 - (3 * s + ((L s).length + 1))) (pPut L s b) else [])).length) (pPut L s j) (up1 hv 2 (pV (sa 3) (pPut L s j))) (up1 ha 2 (cA (sa 3) (pPut L s j))) (paW pa n ((eGo S T du (okC si sa S du) (9 - 3 * (s + 1)) L) ++ (List.range j).flatMap (fun b => if du b = true ∧ ¬ pHas L b then eGo S T du (okC si sa S du) (9 - (3 * s + ((L s).length + 1))) (pPut L s b) else []))) (by rw [pz]; omega) hsS (pOk_push hL hs3 hj5 hr) (fun r hr => by unfold pPut up1; rw [if_neg (by omega)]; exact hZ r hr) (wOk_put hw hs3 hj5) rfl rfl (by rw [pz, Nat.add_assoc, ← List.length_append]; exact hle)
              exact i)
            rw [pz, paW_app, Nat.add_assoc, ← List.length_append, show d - 2 + 1 = d - 1 by omega] at w2
            refine pm_iload_n dP_listFrom_19 rfl (q := 20) rfl ?_
            refine pm_iconst (x := 5) dP_listFrom_20 (by decide) (q := 21) rfl ?_
            refine pm_icmp_ge (tgt := 46) dP_listFrom_21 rfl (q := 24) rfl (fun z => absurd z (show ¬ nI 5 ≤ nI j from nI_ge hj5 (by decide))) (fun _ => ?_)
            refine pm_iload_n dP_listFrom_24 rfl (q := 25) rfl ?_
            refine pm_iload_n dP_listFrom_25 rfl (q := 26) rfl ?_
            refine pm_ishr dP_listFrom_26 (q := 27) rfl ?_
            refine pm_iconst (x := 1) dP_listFrom_27 (by decide) (q := 28) rfl ?_
            refine pm_iand dP_listFrom_28 (q := 29) rfl ?_
            refine pm_iconst (x := 1) dP_listFrom_29 (by decide) (q := 30) rfl ?_
            refine pm_icmp_ne (tgt := 40) dP_listFrom_30 rfl (q := 33) rfl (fun z => absurd b1 z) (fun _ => ?_)
            refine pm_aload_n dP_listFrom_33 rfl (q := 34) rfl ?_
            refine pm_iload_n dP_listFrom_34 rfl (q := 35) rfl ?_
            refine pm_iload_n dP_listFrom_35 rfl (q := 36) rfl ?_
            refine pm_iload_n dP_listFrom_36 rfl (q := 37) rfl ?_
            refine pm_cV3v hK (w2) mo_P_listWith im_P_listWith se_P_listWith lk_P_104 dP_listFrom_37 (by omega) (Nat.le_of_ble_eq_true rfl) (Nat.zero_le _) (Nat.zero_le _) rfl rfl rfl (q := 40) rfl ?_
            refine pm_iincL dP_listFrom_40 rfl (by decide) (y := nI (j + 1)) (by rw [nI_succ]; rfl) (q := 43) rfl ?_
            refine pm_goto (tgt := 19) dP_listFrom_43 rfl ?_
            exact nx
          · have b0 : ¬ (nI w >>> (nI j &&& 31)) &&& 1 = 1 := by rw [hbit]; exact fun z => hq ((hw.2 j hj5).mp z)
            dsimp only at nx
            rw [if_neg hq, List.append_nil] at nx
            refine pm_iload_n dP_listFrom_19 rfl (q := 20) rfl ?_
            refine pm_iconst (x := 5) dP_listFrom_20 (by decide) (q := 21) rfl ?_
            refine pm_icmp_ge (tgt := 46) dP_listFrom_21 rfl (q := 24) rfl (fun z => absurd z (show ¬ nI 5 ≤ nI j from nI_ge hj5 (by decide))) (fun _ => ?_)
            refine pm_iload_n dP_listFrom_24 rfl (q := 25) rfl ?_
            refine pm_iload_n dP_listFrom_25 rfl (q := 26) rfl ?_
            refine pm_ishr dP_listFrom_26 (q := 27) rfl ?_
            refine pm_iconst (x := 1) dP_listFrom_27 (by decide) (q := 28) rfl ?_
            refine pm_iand dP_listFrom_28 (q := 29) rfl ?_
            refine pm_iconst (x := 1) dP_listFrom_29 (by decide) (q := 30) rfl ?_
            refine pm_icmp_ne (tgt := 40) dP_listFrom_30 rfl (q := 33) rfl (fun _ => ?_) (fun z => absurd z b0)
            refine pm_iincL dP_listFrom_40 rfl (by decide) (y := nI (j + 1)) (by rw [nI_succ]; rfl) (q := 43) rfl ?_
            refine pm_goto (tgt := 19) dP_listFrom_43 rfl ?_
            exact nx
      have h0 := hL5 5 0 (by omega)
      have hB := hB (by rw [List.length_append] at hn; omega)
      rw [List.range_zero, List.flatMap_nil, List.append_nil] at h0
      refine pm_aload_n dP_listFrom_0 rfl (q := 1) rfl ?_
      refine pm_iload_n dP_listFrom_1 rfl (q := 2) rfl ?_
      refine pm_iload_n dP_listFrom_2 rfl (q := 3) rfl ?_
      refine pm_cV2v hK (hB) mo_P_listBehind im_P_listBehind se_P_listBehind lk_P_97 dP_listFrom_3 (by omega) (Nat.le_of_ble_eq_true rfl) (Nat.zero_le _) (Nat.zero_le _) rfl rfl rfl (q := 6) rfl ?_
      refine pm_aload_n dP_listFrom_6 rfl (q := 7) rfl ?_
      refine pm_get fl_P_36 dP_listFrom_7 rfl rfl (q := 10) rfl ?_
      refine pm_iload_n dP_listFrom_10 rfl (q := 11) rfl ?_
      refine pm_cV1i hK (kH_hasRoom hl 2 (Nat.le_refl _) (HA _ _) _ (fun _ => v3)) mo_H_hasRoom im_H_hasRoom se_H_hasRoom lk_P_100 dP_listFrom_11 (by omega) (Nat.le_of_ble_eq_true rfl) (Nat.zero_le _) (Nat.zero_le _) rfl rfl rfl (q := 14) rfl ?_
      refine pm_topL (y := 1) rm ?_
      refine pm_if_eq (tgt := 46) dP_listFrom_14 rfl (q := 17) rfl (fun z => absurd z (by decide)) (fun _ => ?_)
      refine pm_iconst (x := 0) dP_listFrom_17 (by decide) (q := 18) rfl ?_
      refine pm_istore_n dP_listFrom_18 (by decide) (q := 19) rfl ?_
      exact h0
    · have e := eGo_full (S := S) (T := T) (du := du) (ok := (okC si sa S du)) (L := L) (s := s) hs3 (by omega) hT3
      rw [e] at hn hret
      have hB := hB hn
      have rm : fhasRoom si (fun s => nI (L s).length) (nI s) = 0 := by
        unfold fhasRoom
        rw [if_neg eS, cs, hT, if_pos (nI_le (by omega) (by omega))]
      refine pm_aload_n dP_listFrom_0 rfl (q := 1) rfl ?_
      refine pm_iload_n dP_listFrom_1 rfl (q := 2) rfl ?_
      refine pm_iload_n dP_listFrom_2 rfl (q := 3) rfl ?_
      refine pm_cV2v hK (hB) mo_P_listBehind im_P_listBehind se_P_listBehind lk_P_97 dP_listFrom_3 (by omega) (Nat.le_of_ble_eq_true rfl) (Nat.zero_le _) (Nat.zero_le _) rfl rfl rfl (q := 6) rfl ?_
      refine pm_aload_n dP_listFrom_6 rfl (q := 7) rfl ?_
      refine pm_get fl_P_36 dP_listFrom_7 rfl rfl (q := 10) rfl ?_
      refine pm_iload_n dP_listFrom_10 rfl (q := 11) rfl ?_
      refine pm_cV1i hK (kH_hasRoom hl 2 (Nat.le_refl _) (HA _ _) _ (fun _ => v3)) mo_H_hasRoom im_H_hasRoom se_H_hasRoom lk_P_100 dP_listFrom_11 (by omega) (Nat.le_of_ble_eq_true rfl) (Nat.zero_le _) (Nat.zero_le _) rfl rfl rfl (q := 14) rfl ?_
      refine pm_topL (y := 0) rm ?_
      refine pm_if_eq (tgt := 46) dP_listFrom_14 rfl (q := 17) rfl (fun _ => ?_) (fun z => absurd rfl z)
      exact pm_retV hret dP_listFrom_46 rfl
