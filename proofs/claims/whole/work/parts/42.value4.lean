/-! the class: does and replay as acts of the value -/
def rC (sc : Nat → Nat → Int32) (S I b : Nat) (fr : Option Nat) (to : Nat) : Prop :=
  sc 0 I = nI b ∧ b < 5 ∧ (match fr with | some s => sc 3 I = -1 ∧ sc 2 I = nI s ∧ s < S | none => sc 3 I = nI to ∧ to < 3)
theorem ldOk_cA {si : Nat → Int32} {sa : Nat → Nat → Int32} {L : pL} {S T b s : Nat} (hL : pOk L T) (hS : si 0 = nI S) (hS1 : 1 ≤ S) (hS3 : S ≤ 3) (hT : si 1 = nI T) (hT3 : T ≤ 3) (hb : b < 5) (hs : s < 3) : ldOk si sa (cA (sa 3) L) b s ↔ (s < S ∧ ¬ (L s).length = T ∧ ¬ si 3 < pW (sa 3) (L s) + sa 3 b ∧ ¬ pHas L b) := by
  have hlen := hL.len s
  have e1 : ¬ fhasRoom si (cA (sa 3) L 1) (nI s) = 0 ↔ (s < S ∧ ¬ (L s).length = T) := by
    unfold fhasRoom
    rw [hS]
    by_cases k : s < S
    · rw [if_neg (fun z => (fw_lt hs hS3 hS1).mp z k), nI_clamp (by omega), hT]
      show ¬ (if nI T ≤ nI (L s).length then (0 : Int32) else 1) = 0 ↔ _
      by_cases k2 : (L s).length = T
      · rw [if_pos (by rw [k2]; exact nI_le (Nat.le_refl _) (by omega))]
        exact ⟨fun z => absurd rfl z, fun z => absurd k2 z.2⟩
      · rw [if_neg (nI_ge (by omega) (by omega))]
        exact ⟨fun _ => ⟨k, k2⟩, fun _ => by decide⟩
    · rw [if_pos ((fw_lt hs hS3 hS1).mpr k)]
      exact ⟨fun z => absurd rfl z, fun z => absurd z.1 k⟩
  have e2 : fisab (cA (sa 3) L 0) (nI b) = 0 ↔ ¬ pHas L b := sM_isab hL hT3 hb
  have e3 : cA (sa 3) L 2 s + sa 3 b ≤ si 3 ↔ ¬ si 3 < pW (sa 3) (L s) + sa 3 b := Int32.not_lt.symm
  unfold ldOk
  rw [e1, e2, e3]
  constructor
  · rintro ⟨⟨a, b⟩, c, d⟩; exact ⟨a, b, d, c⟩
  · rintro ⟨a, b, d, c⟩; exact ⟨⟨a, b⟩, c, d⟩
theorem kH_does0_some {l : Launch} (hl : l.stackTraces = false) (d : Nat) (hd : 4 ≤ d) {pd : Int32} {si : Nat → Int32} {sa : Nat → Nat → Int32} {hv : Nat → Int32} {ha : Nat → Nat → Nat → Int32} {sl : Int32} {sc : Nat → Nat → Int32} {pl : Int32} {pa : Nat → Nat → Int32} {tl : pm_H} {L L' : pL} {S T : Nat} (hS : si 0 = nI S) (hS1 : 1 ≤ S) (hS3 : S ≤ 3) (hT : si 1 = nI T) (hT3 : T ≤ 3) (hok : pOk L T) (ea : ha 0 = cA (sa 3) L) (ev : hv 0 = pV (sa 3) L) (I : Nat) (hI : I < 30) {b : Nat} {fr : Option Nat} {to : Nat} (hr : rC sc S I b fr to) (e : aAct S T (si 3) (sa 3) b fr to L = some L') : pm_Sem l d mH_does [.ref 8, .ref 16, .int (nI I)] (cH pd si sa hv ha sl sc pl pa tl) (some (.int 1)) (cH pd si sa (up1 hv 0 (pV (sa 3) L')) (up1 ha 0 (cA (sa 3) L')) sl sc pl pa tl) := by
  obtain ⟨e1, hb, hr⟩ := hr
  cases fr with
  | some s =>
    obtain ⟨e2, e3, hs⟩ := hr
    have hlen := hok.len s
    unfold aAct at e
    dsimp only at e
    by_cases z : (L s).getLast? = some b
    · rw [if_pos z] at e
      cases e
      cases hn : (L s).length with
      | zero => rw [List.length_eq_zero_iff.mp hn] at z; cases z
      | succ n =>
        have k : ulOk si (ha 0) b s n := by
          rw [ea]
          refine ⟨by rw [hS]; exact fun z => (fw_lt (by omega) hS3 hS1).mp z hs, ?_, ?_⟩
          · show nI (L s).length = nI (n + 1)
            rw [hn]
          · show sM L (s * 3 + n) = nI b
            rw [show s * 3 = 3 * s by omega]
            exact sM_in (by omega) ((getLast?_ix _ n b hn).mp z)
        have y := kH_does0_off_ok hl d hd (pd := pd) (hv := hv) (sa := sa) (sl := sl) (pl := pl) (pa := pa) (tl := tl) I hI b s n hb (by omega) (by omega) k e1 e2 e3
        rw [ea, ev, unA_cA (sa 3) L z hn (by omega), pV_pop (sa 3) L (by omega) z hn] at y
        exact y
    · rw [if_neg z] at e
      cases e
  | none =>
    obtain ⟨e2, hto⟩ := hr
    unfold aAct at e
    dsimp only at e
    by_cases z : to < S ∧ ¬ (L to).length = T ∧ ¬ si 3 < pW (sa 3) (L to) + sa 3 b ∧ ¬ pHas L b
    · rw [if_pos z] at e
      cases e
      have hlen := hok.len to
      have k : ldOk si sa (ha 0) b to := by rw [ea]; exact (ldOk_cA hok hS hS1 hS3 hT hT3 hb hto).mpr z
      have y := kH_does0_on_ok hl d hd (pd := pd) (hv := hv) (sl := sl) (pl := pl) (pa := pa) (tl := tl) I hI b to (L to).length hb hto (by have := z.2.1; omega) (by rw [ea]; rfl) k e1 e2
      rw [ea, ev, stA_cA (sa 3) L b (by have := z.2.1; omega), ← pV_push (sa 3) L hto b] at y
      exact y
    · rw [if_neg z] at e
      cases e
theorem kH_does0_none {l : Launch} (hl : l.stackTraces = false) (d : Nat) (hd : 4 ≤ d) {pd : Int32} {si : Nat → Int32} {sa : Nat → Nat → Int32} {hv : Nat → Int32} {ha : Nat → Nat → Nat → Int32} {sl : Int32} {sc : Nat → Nat → Int32} {pl : Int32} {pa : Nat → Nat → Int32} {tl : pm_H} {L : pL} {S T : Nat} (hS : si 0 = nI S) (hS1 : 1 ≤ S) (hS3 : S ≤ 3) (hT : si 1 = nI T) (hT3 : T ≤ 3) (hok : pOk L T) (ea : ha 0 = cA (sa 3) L) (ev : hv 0 = pV (sa 3) L) (I : Nat) (hI : I < 30) {b : Nat} {fr : Option Nat} {to : Nat} (hr : rC sc S I b fr to) (e : aAct S T (si 3) (sa 3) b fr to L = none) : pm_Sem l d mH_does [.ref 8, .ref 16, .int (nI I)] (cH pd si sa hv ha sl sc pl pa tl) (some (.int 0)) (cH pd si sa hv ha sl sc pl pa tl) := by
  obtain ⟨e1, hb, hr⟩ := hr
  cases fr with
  | some s =>
    obtain ⟨e2, e3, hs⟩ := hr
    have hlen := hok.len s
    unfold aAct at e
    dsimp only at e
    refine kH_does0_off_no hl d hd I hI b s (L s).length hb (by omega) (by omega) (by rw [ea]; rfl) ?_ e1 e2 e3
    intro n hn3 k
    rw [ea] at k
    have k2 : nI (L s).length = nI (n + 1) := k.2.1
    have hn : (L s).length = n + 1 := nI_inj (by omega) (by omega) k2
    have k3 : sM L (s * 3 + n) = nI b := k.2.2
    have hj : n < (L s).length := by omega
    rw [show s * 3 = 3 * s by omega, sM_in (by omega) (List.getElem?_eq_getElem hj)] at k3
    have h5 := hok.box s _ (List.getElem_mem hj)
    have k4 := nI_inj (by omega) (by omega) k3
    have z : (L s).getLast? = some b := (getLast?_ix _ n b hn).mpr (by rw [List.getElem?_eq_getElem hj, k4])
    rw [if_pos z] at e
    cases e
  | none =>
    obtain ⟨e2, hto⟩ := hr
    unfold aAct at e
    dsimp only at e
    refine kH_does0_on_no hl d hd I hI b to hb hto ?_ e1 e2
    rw [ea]
    intro k
    rw [if_pos ((ldOk_cA hok hS hS1 hS3 hT hT3 hb hto).mp k)] at e
    cases e
theorem kH_does1_some {l : Launch} (hl : l.stackTraces = false) (d : Nat) (hd : 4 ≤ d) {pd : Int32} {si : Nat → Int32} {sa : Nat → Nat → Int32} {hv : Nat → Int32} {ha : Nat → Nat → Nat → Int32} {sl : Int32} {sc : Nat → Nat → Int32} {pl : Int32} {pa : Nat → Nat → Int32} {tl : pm_H} {L L' : pL} {S T : Nat} (hS : si 0 = nI S) (hS1 : 1 ≤ S) (hS3 : S ≤ 3) (hT : si 1 = nI T) (hT3 : T ≤ 3) (hok : pOk L T) (ea : ha 1 = cA (sa 3) L) (ev : hv 1 = pV (sa 3) L) (I : Nat) (hI : I < 30) {b : Nat} {fr : Option Nat} {to : Nat} (hr : rC sc S I b fr to) (e : aAct S T (si 3) (sa 3) b fr to L = some L') : pm_Sem l d mH_does [.ref 12, .ref 16, .int (nI I)] (cH pd si sa hv ha sl sc pl pa tl) (some (.int 1)) (cH pd si sa (up1 hv 1 (pV (sa 3) L')) (up1 ha 1 (cA (sa 3) L')) sl sc pl pa tl) := by
  obtain ⟨e1, hb, hr⟩ := hr
  cases fr with
  | some s =>
    obtain ⟨e2, e3, hs⟩ := hr
    have hlen := hok.len s
    unfold aAct at e
    dsimp only at e
    by_cases z : (L s).getLast? = some b
    · rw [if_pos z] at e
      cases e
      cases hn : (L s).length with
      | zero => rw [List.length_eq_zero_iff.mp hn] at z; cases z
      | succ n =>
        have k : ulOk si (ha 1) b s n := by
          rw [ea]
          refine ⟨by rw [hS]; exact fun z => (fw_lt (by omega) hS3 hS1).mp z hs, ?_, ?_⟩
          · show nI (L s).length = nI (n + 1)
            rw [hn]
          · show sM L (s * 3 + n) = nI b
            rw [show s * 3 = 3 * s by omega]
            exact sM_in (by omega) ((getLast?_ix _ n b hn).mp z)
        have y := kH_does1_off_ok hl d hd (pd := pd) (hv := hv) (sa := sa) (sl := sl) (pl := pl) (pa := pa) (tl := tl) I hI b s n hb (by omega) (by omega) k e1 e2 e3
        rw [ea, ev, unA_cA (sa 3) L z hn (by omega), pV_pop (sa 3) L (by omega) z hn] at y
        exact y
    · rw [if_neg z] at e
      cases e
  | none =>
    obtain ⟨e2, hto⟩ := hr
    unfold aAct at e
    dsimp only at e
    by_cases z : to < S ∧ ¬ (L to).length = T ∧ ¬ si 3 < pW (sa 3) (L to) + sa 3 b ∧ ¬ pHas L b
    · rw [if_pos z] at e
      cases e
      have hlen := hok.len to
      have k : ldOk si sa (ha 1) b to := by rw [ea]; exact (ldOk_cA hok hS hS1 hS3 hT hT3 hb hto).mpr z
      have y := kH_does1_on_ok hl d hd (pd := pd) (hv := hv) (sl := sl) (pl := pl) (pa := pa) (tl := tl) I hI b to (L to).length hb hto (by have := z.2.1; omega) (by rw [ea]; rfl) k e1 e2
      rw [ea, ev, stA_cA (sa 3) L b (by have := z.2.1; omega), ← pV_push (sa 3) L hto b] at y
      exact y
    · rw [if_neg z] at e
      cases e
theorem kH_does1_none {l : Launch} (hl : l.stackTraces = false) (d : Nat) (hd : 4 ≤ d) {pd : Int32} {si : Nat → Int32} {sa : Nat → Nat → Int32} {hv : Nat → Int32} {ha : Nat → Nat → Nat → Int32} {sl : Int32} {sc : Nat → Nat → Int32} {pl : Int32} {pa : Nat → Nat → Int32} {tl : pm_H} {L : pL} {S T : Nat} (hS : si 0 = nI S) (hS1 : 1 ≤ S) (hS3 : S ≤ 3) (hT : si 1 = nI T) (hT3 : T ≤ 3) (hok : pOk L T) (ea : ha 1 = cA (sa 3) L) (ev : hv 1 = pV (sa 3) L) (I : Nat) (hI : I < 30) {b : Nat} {fr : Option Nat} {to : Nat} (hr : rC sc S I b fr to) (e : aAct S T (si 3) (sa 3) b fr to L = none) : pm_Sem l d mH_does [.ref 12, .ref 16, .int (nI I)] (cH pd si sa hv ha sl sc pl pa tl) (some (.int 0)) (cH pd si sa hv ha sl sc pl pa tl) := by
  obtain ⟨e1, hb, hr⟩ := hr
  cases fr with
  | some s =>
    obtain ⟨e2, e3, hs⟩ := hr
    have hlen := hok.len s
    unfold aAct at e
    dsimp only at e
    refine kH_does1_off_no hl d hd I hI b s (L s).length hb (by omega) (by omega) (by rw [ea]; rfl) ?_ e1 e2 e3
    intro n hn3 k
    rw [ea] at k
    have k2 : nI (L s).length = nI (n + 1) := k.2.1
    have hn : (L s).length = n + 1 := nI_inj (by omega) (by omega) k2
    have k3 : sM L (s * 3 + n) = nI b := k.2.2
    have hj : n < (L s).length := by omega
    rw [show s * 3 = 3 * s by omega, sM_in (by omega) (List.getElem?_eq_getElem hj)] at k3
    have h5 := hok.box s _ (List.getElem_mem hj)
    have k4 := nI_inj (by omega) (by omega) k3
    have z : (L s).getLast? = some b := (getLast?_ix _ n b hn).mpr (by rw [List.getElem?_eq_getElem hj, k4])
    rw [if_pos z] at e
    cases e
  | none =>
    obtain ⟨e2, hto⟩ := hr
    unfold aAct at e
    dsimp only at e
    refine kH_does1_on_no hl d hd I hI b to hb hto ?_ e1 e2
    rw [ea]
    intro k
    rw [if_pos ((ldOk_cA hok hS hS1 hS3 hT hT3 hb hto).mp k)] at e
    cases e
