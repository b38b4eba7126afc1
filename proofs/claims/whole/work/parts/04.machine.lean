/-! The light machine: values with relative addresses (places of a list of cells), a judgement pm_Go that hides the walk's context; one row an instruction. -/
abbrev pm_C : Type := (Nat × List Value) ⊕ ((FieldType × Nat × (Nat → Int32)) ⊕ (Nat × (Nat → Int64)))
abbrev pm_H : Type := List pm_C
abbrev pm_o (ci : Nat) (fs : List Value) : pm_C := .inl (ci, fs)
abbrev pm_i (n : Nat) (f : Nat → Int32) : pm_C := .inr (.inl (.int, n, f))
abbrev pm_z (n : Nat) (f : Nat → Int32) : pm_C := .inr (.inl (.boolean, n, f))
abbrev pm_l (n : Nat) (f : Nat → Int64) : pm_C := .inr (.inr (n, f))
def pm_v (α : Nat → Nat) (v : Value) : Value := match v with
  | .ref a => .ref (α a)
  | .null => .null
  | .int x => .int x
  | .long x => .long x
  | w => w
def pm_e (α : Nat → Nat) (κ : FieldType → ClassId) (c : pm_C) : va_E := match c with
  | .inl (ci, fs) => .inr (ci, fs.map (pm_v α))
  | .inr (.inl (ty, n, f)) => .inl (κ ty, n, .inl f)
  | .inr (.inr (n, f)) => .inl (κ .long, n, .inr (.inl f))
def pm_w (α : Nat → Nat) (κ : FieldType → ClassId) (h : pm_H) : va_W := h.mapIdx (fun k c => (α k, pm_e α κ c))
def pm_ty (κ : FieldType → ClassId) : List (ClassId × FieldType) := [(κ .int, .int), (κ .boolean, .boolean), (κ .long, .long)]
theorem pm_v_cat (α : Nat → Nat) (v : Value) : (pm_v α v).category = v.category := by cases v <;> rfl
theorem pm_v_int (α : Nat → Nat) (x : Int32) : pm_v α (.int x) = .int x := rfl
theorem pm_w_get (α : Nat → Nat) (κ : FieldType → ClassId) (h : pm_H) (k : Nat) : (pm_w α κ h)[k]? = (h[k]?).map (fun c => (α k, pm_e α κ c)) := by
  simp [pm_w]
theorem pm_w_at {α : Nat → Nat} {κ : FieldType → ClassId} {h : pm_H} {k : Nat} {c : pm_C} (hk : h[k]? = some c) : (pm_w α κ h)[k]? = some (α k, pm_e α κ c) := by
  rw [pm_w_get, hk]; rfl
theorem pm_w_set {α : Nat → Nat} {κ : FieldType → ClassId} (h : pm_H) (k : Nat) (c : pm_C) : (pm_w α κ h).set k (α k, pm_e α κ c) = pm_w α κ (h.set k c) := by
  apply List.ext_getElem?
  intro i
  rw [pm_w_get, List.getElem?_set, List.getElem?_set, pm_w_get]
  have hlen : (pm_w α κ h).length = h.length := by simp [pm_w]
  rw [hlen]
  by_cases hik : k = i
  · subst hik
    by_cases hl : k < h.length
    · simp [hl]
    · simp [hl]
  · simp [hik]
theorem pm_w_app {α : Nat → Nat} {κ : FieldType → ClassId} (h : pm_H) (c : pm_C) : pm_w α κ (h ++ [c]) = pm_w α κ h ++ [(α h.length, pm_e α κ c)] := by
  apply List.ext_getElem?
  intro i
  have hlen : (pm_w α κ h).length = h.length := by simp [pm_w]
  rw [pm_w_get, List.getElem?_append, List.getElem?_append, pm_w_get, hlen]
  by_cases hl : i < h.length
  · simp [hl]
  · by_cases hi : i = h.length
    · subst hi; simp
    · have : i - h.length ≠ 0 := by omega
      simp [hl]
      rw [List.getElem?_eq_none (by simp; omega), List.getElem?_eq_none (by simp; omega)]
      rfl
/-! locals -/
def pm_L (α : Nat → Nat) (ls : List (Option Value)) (nL : Nat) (rs : Array Slot) : Prop := rs.size = nL ∧ lv_wf rs ∧ ∀ (i : Nat) (v : Value), ls[i]? = some (some v) → v.category = 1 ∧ rs[i]? = some (.val (pm_v α v))
def pm_lv (α : Nat → Nat) (ls : List (Option Value)) : List (Nat × Value) := (List.range ls.length).filterMap (fun i => ((ls[i]?).join).map (fun v => (i, pm_v α v)))
theorem pm_lv_mem {α : Nat → Nat} {ls : List (Option Value)} {i : Nat} {v : Value} (h : ls[i]? = some (some v)) : (i, pm_v α v) ∈ pm_lv α ls := by
  unfold pm_lv
  refine List.mem_filterMap.mpr ⟨i, List.mem_range.mpr (List.getElem?_eq_some_iff.mp h).1, ?_⟩
  rw [h]; rfl
theorem pm_lv_of {α : Nat → Nat} {ls : List (Option Value)} {q : Nat × Value} (h : q ∈ pm_lv α ls) : ∃ v, ls[q.1]? = some (some v) ∧ q.2 = pm_v α v := by
  unfold pm_lv at h
  obtain ⟨i, -, hi⟩ := List.mem_filterMap.mp h
  cases hx : ls[i]? with
  | none => rw [hx] at hi; cases hi
  | some o =>
    cases o with
    | none => rw [hx] at hi; cases hi
    | some v =>
      rw [hx] at hi
      cases hi
      exact ⟨v, hx, rfl⟩
theorem pm_L.has {α : Nat → Nat} {ls : List (Option Value)} {nL : Nat} {rs : Array Slot} (h : pm_L α ls nL rs) : lv_has rs nL (pm_lv α ls) := by
  refine ⟨h.1, h.2.1, fun q hq => ?_⟩
  obtain ⟨v, h1, h2⟩ := pm_lv_of hq
  rw [h2]
  exact (h.2.2 _ v h1).2
theorem pm_L.store {α : Nat → Nat} {ls : List (Option Value)} {nL i : Nat} {rs rs' : Array Slot} {v : Value} (h : pm_L α ls nL rs) (hc : v.category = 1)
    (h' : lv_has rs' nL ((i, pm_v α v) :: (pm_lv α ls).filter (fun q => !(q.1 == i) && !(q.1 + 1 == i && q.2.category == 2)))) : pm_L α (ls.set i (some v)) nL rs' := by
  refine ⟨h'.1, h'.2.1, fun j w hj => ?_⟩
  rw [List.getElem?_set] at hj
  by_cases hij : i = j
  · subst hij
    rw [if_pos rfl] at hj
    by_cases hl : i < ls.length
    · rw [if_pos hl] at hj
      cases hj
      exact ⟨hc, h'.2.2 (i, pm_v α v) List.mem_cons_self⟩
    · rw [if_neg hl] at hj
      cases hj
  · rw [if_neg hij] at hj
    have h1 := h.2.2 j w hj
    refine ⟨h1.1, h'.2.2 (j, pm_v α w) (List.mem_cons_of_mem _ (List.mem_filter.mpr ⟨pm_lv_mem hj, ?_⟩))⟩
    have h2 : (pm_v α w).category = 1 := (pm_v_cat α w).trans h1.1
    have h3 : (j == i) = false := by simp; exact fun z => hij z.symm
    simp [h2]
    exact fun z => hij z.symm
/-! methods: name, bytes, locals, return type, handlers -/
abbrev pm_M : Type := MethodName × ByteArray × Nat × Option FieldType × List (Nat × Nat × Nat × Nat)
theorem pm_ws_good {w : Cond} (h : w ∈ pm_ws) : (w.onTables && w.keeps) = true ∨ ∃ ty, w = .arrayClass ty := good_of_word (List.mem_filter.mp h).2
/-- the context of a walk -/
abbrev pm_X : Type := Program × Launch × Env × Room × State × MethodId × Array Value × List Frame × Method × Code × (Nat → Prop) × va_G × (FieldType → ClassId) × (Nat → Nat)
/-- words that hold in any state whose heap is the same outside A -/
def pm_Zw (w : Cond) (A : Nat → Prop) (U : State) : Prop := ∀ T : State, U.vm.Alike T.vm → U.heap.size ≤ T.heap.size → (∀ q : Nat, q < U.heap.size → ¬ A q → T.heap[q]? = U.heap[q]?) → w.before #[] T = true
def pm_N (A : Nat → Prop) (U : State) : Prop := (∀ w ∈ pm_nw, va_Nw w U) ∧ (∀ w ∈ pm_zw, pm_Zw w A U) ∧ ∀ w ∈ pm_nc, va_Nc w.1 w.2 U
theorem pm_isN_on {w : Cond} (h : pm_isN w = true) : w.onTables = true := by
  cases w <;> first | rfl | (simp [pm_isN] at h)
theorem pm_cast_warm {a b : String} {s U : State} (hW : s.WarmedH U.vm) (h : va_Nw (.castable a b) s) : va_Nw (.castable a b) U := by
  obtain ⟨c3, c4, h3, h4, h5⟩ := Cond.castable_spec h
  have e3 : U.vm.findClass a = some c3 := by rw [hW.alike.findClass]; exact h3
  have e4 : U.vm.findClass b = some c4 := by rw [hW.alike.findClass]; exact h4
  have e5 : U.vm.assignable c3 c4 = true := by rw [hW.alike.assignable]; exact h5
  simp [va_Nw, Cond.before, Cond.holds, Cond.value, e3, e4, e5]
theorem pm_isN_warm {w : Cond} (hw : pm_isN w = true) {s U : State} (hW : s.WarmedH U.vm) (h : va_Nw w s) : va_Nw w U := by
  cases w <;> first | exact va_Nw.warmF hW h | exact va_Nw.warmM hW h | exact pm_cast_warm hW h | exact va_Nw.warmD hW h | (simp [pm_isN] at hw)
theorem pm_N.blind {A : Nat → Prop} {U : State} {g : JFrame} {mk : MethodId} {a : Array Value} (h : pm_N A U) : pm_N A (U.calling g mk a) :=
  ⟨fun w hw => va_Nw.same (u := U) (pm_isN_on (pm_nw_ok w hw)) rfl (h.1 w hw), fun w hw T h1 h2 h3 => h.2.1 w hw T h1 h2 h3, fun w hw => (h.2.2 w hw).moved (u := U) (U := U.calling g mk a) (Vm.Alike.refl U.vm)⟩
theorem pm_N.down {A B : Nat → Prop} {s U : State} {H : Heap} {locs : List Loc} (h : pm_N A s) (hS : va_S A s.heap H locs) (hU : U.heap = H) (hW : s.WarmedH U.vm) (hB : ∀ q, B q → A q) : pm_N B U := by
  refine ⟨fun w hw => pm_isN_warm (pm_nw_ok w hw) hW (h.1 w hw), fun w hw T h1 h2 h3 => h.2.1 w hw T (hW.alike.trans h1) ?_ ?_, fun w hw => (h.2.2 w hw).moved hW.alike⟩
  · rw [hU] at h2
    exact Nat.le_trans hS.1 h2
  · intro q hq hn
    rw [hU] at h3
    rw [h3 q (Nat.lt_of_lt_of_le hq hS.1) (fun z => hn (hB q z))]
    exact hS.2.1 q hq hn
def pm_Ok (M : pm_M) (X : pm_X) : Prop := match X with
  | (p, l, _, _, s, m, args, _, meth, c, A, D, κ, _) => p.tables.exec = Jvm.exec ∧ c.code = M.2.1 ∧ meth.sig.returnType = M.2.2.2.1 ∧ c.maxLocals = M.2.2.1 ∧ s.vm.findClass M.1.cls = some m.cls ∧ (∀ w ∈ pm_ws, w.before args s = true) ∧ va_K D vwCl (pm_ty κ) s ∧ (∀ q : Nat, s.heap.size ≤ q → A q) ∧ meth.locks = false ∧ pm_N A s ∧ meth.name = M.1.name ∧ l.stackTraces = false ∧ c.exceptionTable.toList = tableOf M.2.2.2.2
def pm_St (M : pm_M) (X : pm_X) (ls : List (Option Value)) (h : pm_H) (H : Heap) (locs : List Loc) (rs : Array Slot) : Prop := match X with
  | (_, _, _, _, s, _, _, _, _, _, A, D, κ, α) => va_P D vwCl (pm_w α κ h) H ∧ va_D A (pm_w α κ h) ∧ va_S A s.heap H locs ∧ pm_L α ls M.2.2.1 rs
def pm_W (X : pm_X) (Q : State → Prop) (H : Heap) (locs : List Loc) (k n pc : Nat) (rs : Array Slot) (st : List Value) : Prop := match X with
  | (p, l, e, R, s, m, args, below, meth, c, _, _, _, α) => W p l e R s m args below meth c H locs k n Q (F0 m pc rs (st.map (pm_v α)))
/-- from this pure state the walk comes to its end -/
def pm_Go (M : pm_M) (K : pm_X → Prop) (G : pm_X → State → Prop) (pc : Nat) (ls : List (Option Value)) (st : List Value) (h : pm_H) (k n : Nat) : Prop :=
  ∀ X : pm_X, K X → pm_Ok M X → ∀ (H : Heap) (locs : List Loc) (rs : Array Slot), pm_St M X ls h H locs rs → pm_W X (G X) H locs k n pc rs st
section Rows
variable {M : pm_M} {K : pm_X → Prop} {G : pm_X → State → Prop} {pc : Nat} {ls : List (Option Value)} {st : List Value} {h : pm_H} {k n : Nat}
theorem pm_iconst {i : Int} {x : Int32} (hd : decode M.2.1 pc = .ok (.iconst i, 1)) (hv : Int32.ofInt i = x) {q : Nat} (hq : pc + 1 = q) (kk : pm_Go M K G q ls (.int x :: st) h k n) : pm_Go M K G pc ls st h k n := by
  subst hq
  rintro ⟨p, l, e, R, s, m, args, below, meth, c, A, D, κ, α⟩ hK hO H locs rs hs
  exact lv_iconst hO.1 hO.2.1 hd hv (kk _ hK hO H locs rs hs)
theorem pm_bipush {i : Int} {x : Int32} (hd : decode M.2.1 pc = .ok (.bipush i, 2)) (hv : (Int8.ofInt i).toInt32 = x) {q : Nat} (hq : pc + 2 = q) (kk : pm_Go M K G q ls (.int x :: st) h k n) : pm_Go M K G pc ls st h k n := by
  subst hq
  rintro ⟨p, l, e, R, s, m, args, below, meth, c, A, D, κ, α⟩ hK hO H locs rs hs
  exact lv_bipush hO.1 hO.2.1 hd hv (kk _ hK hO H locs rs hs)
theorem pm_sipush {i : Int} {x : Int32} (hd : decode M.2.1 pc = .ok (.sipush i, 3)) (hv : (Int16.ofInt i).toInt32 = x) {q : Nat} (hq : pc + 3 = q) (kk : pm_Go M K G q ls (.int x :: st) h k n) : pm_Go M K G pc ls st h k n := by
  subst hq
  rintro ⟨p, l, e, R, s, m, args, below, meth, c, A, D, κ, α⟩ hK hO H locs rs hs
  exact lv_sipush hO.1 hO.2.1 hd hv (kk _ hK hO H locs rs hs)
theorem pm_iload_n {j : Fin 4} {x : Int32} (hd : decode M.2.1 pc = .ok (.iload_n j, 1)) (hl : ls[(j : Nat)]? = some (some (.int x))) {q : Nat} (hq : pc + 1 = q) (kk : pm_Go M K G q ls (.int x :: st) h k n) : pm_Go M K G pc ls st h k n := by
  subst hq
  rintro ⟨p, l, e, R, s, m, args, below, meth, c, A, D, κ, α⟩ hK hO H locs rs hs
  exact lv_iload_n hO.1 hO.2.1 hd rfl (hs.2.2.2.2.2 _ _ hl).2 (kk _ hK hO H locs rs hs)
theorem pm_iload {j : Nat} {x : Int32} (hd : decode M.2.1 pc = .ok (.iload j, 2)) (hl : ls[j]? = some (some (.int x))) {q : Nat} (hq : pc + 2 = q) (kk : pm_Go M K G q ls (.int x :: st) h k n) : pm_Go M K G pc ls st h k n := by
  subst hq
  rintro ⟨p, l, e, R, s, m, args, below, meth, c, A, D, κ, α⟩ hK hO H locs rs hs
  exact lv_iload hO.1 hO.2.1 hd (hs.2.2.2.2.2 _ _ hl).2 (kk _ hK hO H locs rs hs)
theorem pm_istore_n {j : Fin 4} {x : Int32} (hd : decode M.2.1 pc = .ok (.istore_n j, 1)) (hn : (j : Nat) < M.2.2.1) {q : Nat} (hq : pc + 1 = q) (kk : pm_Go M K G q (ls.set (j : Nat) (some (.int x))) st h k n) : pm_Go M K G pc ls (.int x :: st) h k n := by
  subst hq
  rintro ⟨p, l, e, R, s, m, args, below, meth, c, A, D, κ, α⟩ hK hO H locs rs hs
  obtain ⟨hP, hD, hS, hL⟩ := hs
  exact lv_istore_n hO.1 hO.2.1 hd rfl hL.has hn rfl (fun rs' h' => kk _ hK hO H locs rs' ⟨hP, hD, hS, hL.store rfl h'⟩)
theorem pm_istore {j : Nat} {x : Int32} (hd : decode M.2.1 pc = .ok (.istore j, 2)) (hn : j < M.2.2.1) {q : Nat} (hq : pc + 2 = q) (kk : pm_Go M K G q (ls.set j (some (.int x))) st h k n) : pm_Go M K G pc ls (.int x :: st) h k n := by
  subst hq
  rintro ⟨p, l, e, R, s, m, args, below, meth, c, A, D, κ, α⟩ hK hO H locs rs hs
  obtain ⟨hP, hD, hS, hL⟩ := hs
  exact lv_istore hO.1 hO.2.1 hd hL.has hn rfl (fun rs' h' => kk _ hK hO H locs rs' ⟨hP, hD, hS, hL.store rfl h'⟩)
theorem pm_aload_n {j : Fin 4} {x : Nat} (hd : decode M.2.1 pc = .ok (.aload_n j, 1)) (hl : ls[(j : Nat)]? = some (some (.ref x))) {q : Nat} (hq : pc + 1 = q) (kk : pm_Go M K G q ls (.ref x :: st) h k n) : pm_Go M K G pc ls st h k n := by
  subst hq
  rintro ⟨p, l, e, R, s, m, args, below, meth, c, A, D, κ, α⟩ hK hO H locs rs hs
  exact lv_aload_n hO.1 hO.2.1 hd rfl (hs.2.2.2.2.2 _ _ hl).2 (kk _ hK hO H locs rs hs)
theorem pm_aload {j : Nat} {x : Nat} (hd : decode M.2.1 pc = .ok (.aload j, 2)) (hl : ls[j]? = some (some (.ref x))) {q : Nat} (hq : pc + 2 = q) (kk : pm_Go M K G q ls (.ref x :: st) h k n) : pm_Go M K G pc ls st h k n := by
  subst hq
  rintro ⟨p, l, e, R, s, m, args, below, meth, c, A, D, κ, α⟩ hK hO H locs rs hs
  exact lv_aload hO.1 hO.2.1 hd (hs.2.2.2.2.2 _ _ hl).2 (kk _ hK hO H locs rs hs)
theorem pm_astore_n {j : Fin 4} {x : Nat} (hd : decode M.2.1 pc = .ok (.astore_n j, 1)) (hn : (j : Nat) < M.2.2.1) {q : Nat} (hq : pc + 1 = q) (kk : pm_Go M K G q (ls.set (j : Nat) (some (.ref x))) st h k n) : pm_Go M K G pc ls (.ref x :: st) h k n := by
  subst hq
  rintro ⟨p, l, e, R, s, m, args, below, meth, c, A, D, κ, α⟩ hK hO H locs rs hs
  obtain ⟨hP, hD, hS, hL⟩ := hs
  exact lv_astore_n hO.1 hO.2.1 hd rfl hL.has hn rfl (fun rs' h' => kk _ hK hO H locs rs' ⟨hP, hD, hS, hL.store rfl h'⟩)
theorem pm_astore {j : Nat} {x : Nat} (hd : decode M.2.1 pc = .ok (.astore j, 2)) (hn : j < M.2.2.1) {q : Nat} (hq : pc + 2 = q) (kk : pm_Go M K G q (ls.set j (some (.ref x))) st h k n) : pm_Go M K G pc ls (.ref x :: st) h k n := by
  subst hq
  rintro ⟨p, l, e, R, s, m, args, below, meth, c, A, D, κ, α⟩ hK hO H locs rs hs
  obtain ⟨hP, hD, hS, hL⟩ := hs
  exact lv_astore hO.1 hO.2.1 hd hL.has hn rfl (fun rs' h' => kk _ hK hO H locs rs' ⟨hP, hD, hS, hL.store rfl h'⟩)
theorem pm_iinc {j : Nat} {i : Int} {x : Int32} (hd : decode M.2.1 pc = .ok (.iinc j i, 3)) (hl : ls[j]? = some (some (.int x))) (hn : j < M.2.2.1) {c0 : Int32} (hc0 : Int32.ofInt i = c0) {q : Nat} (hq : pc + 3 = q) (kk : pm_Go M K G q (ls.set j (some (.int (x + c0)))) st h k n) : pm_Go M K G pc ls st h k n := by
  subst hq
  subst hc0
  rintro ⟨p, l, e, R, s, m, args, below, meth, c, A, D, κ, α⟩ hK hO H locs rs hs
  obtain ⟨hP, hD, hS, hL⟩ := hs
  obtain ⟨z, hz⟩ := List.getElem?_of_mem (pm_lv_mem (α := α) hl)
  exact lv_iinc (x := x) hO.1 hO.2.1 hd hL.has hz rfl hn rfl (fun rs' h' => kk _ hK hO H locs rs' ⟨hP, hD, hS, hL.store rfl h'⟩)
theorem pm_iincL {j : Nat} {i : Int} {x : Int32} (hd : decode M.2.1 pc = .ok (.iinc j i, 3)) (hl : ls[j]? = some (some (.int x))) (hn : j < M.2.2.1) {y : Int32} (hy : x + Int32.ofInt i = y) {q : Nat} (hq : pc + 3 = q) (kk : pm_Go M K G q (ls.set j (some (.int y))) st h k n) : pm_Go M K G pc ls st h k n := by
  subst hq
  subst hy
  rintro ⟨p, l, e, R, s, m, args, below, meth, c, A, D, κ, α⟩ hK hO H locs rs hs
  obtain ⟨hP, hD, hS, hL⟩ := hs
  obtain ⟨z, hz⟩ := List.getElem?_of_mem (pm_lv_mem (α := α) hl)
  exact lv_iinc (x := x) hO.1 hO.2.1 hd hL.has hz rfl hn rfl (fun rs' h' => kk _ hK hO H locs rs' ⟨hP, hD, hS, hL.store rfl h'⟩)
theorem pm_iadd {x y : Int32} (hd : decode M.2.1 pc = .ok (.iadd, 1)) {q : Nat} (hq : pc + 1 = q) (kk : pm_Go M K G q ls (.int (x + y) :: st) h k n) : pm_Go M K G pc ls (.int y :: .int x :: st) h k n := by
  subst hq
  rintro ⟨p, l, e, R, s, m, args, below, meth, c, A, D, κ, α⟩ hK hO H locs rs hs
  exact lv_iadd hO.1 hO.2.1 hd (kk _ hK hO H locs rs hs)
theorem pm_isub {x y : Int32} (hd : decode M.2.1 pc = .ok (.isub, 1)) {q : Nat} (hq : pc + 1 = q) (kk : pm_Go M K G q ls (.int (x - y) :: st) h k n) : pm_Go M K G pc ls (.int y :: .int x :: st) h k n := by
  subst hq
  rintro ⟨p, l, e, R, s, m, args, below, meth, c, A, D, κ, α⟩ hK hO H locs rs hs
  exact lv_isub hO.1 hO.2.1 hd (kk _ hK hO H locs rs hs)
theorem pm_imul {x y : Int32} (hd : decode M.2.1 pc = .ok (.imul, 1)) {q : Nat} (hq : pc + 1 = q) (kk : pm_Go M K G q ls (.int (x * y) :: st) h k n) : pm_Go M K G pc ls (.int y :: .int x :: st) h k n := by
  subst hq
  rintro ⟨p, l, e, R, s, m, args, below, meth, c, A, D, κ, α⟩ hK hO H locs rs hs
  exact lv_imul hO.1 hO.2.1 hd (kk _ hK hO H locs rs hs)
theorem pm_iand {x y : Int32} (hd : decode M.2.1 pc = .ok (.iand, 1)) {q : Nat} (hq : pc + 1 = q) (kk : pm_Go M K G q ls (.int (x &&& y) :: st) h k n) : pm_Go M K G pc ls (.int y :: .int x :: st) h k n := by
  subst hq
  rintro ⟨p, l, e, R, s, m, args, below, meth, c, A, D, κ, α⟩ hK hO H locs rs hs
  exact lv_iand hO.1 hO.2.1 hd (kk _ hK hO H locs rs hs)
theorem pm_ior {x y : Int32} (hd : decode M.2.1 pc = .ok (.ior, 1)) {q : Nat} (hq : pc + 1 = q) (kk : pm_Go M K G q ls (.int (x ||| y) :: st) h k n) : pm_Go M K G pc ls (.int y :: .int x :: st) h k n := by
  subst hq
  rintro ⟨p, l, e, R, s, m, args, below, meth, c, A, D, κ, α⟩ hK hO H locs rs hs
  exact lv_ior hO.1 hO.2.1 hd (kk _ hK hO H locs rs hs)
theorem pm_ixor {x y : Int32} (hd : decode M.2.1 pc = .ok (.ixor, 1)) {q : Nat} (hq : pc + 1 = q) (kk : pm_Go M K G q ls (.int (x ^^^ y) :: st) h k n) : pm_Go M K G pc ls (.int y :: .int x :: st) h k n := by
  subst hq
  rintro ⟨p, l, e, R, s, m, args, below, meth, c, A, D, κ, α⟩ hK hO H locs rs hs
  exact lv_ixor hO.1 hO.2.1 hd (kk _ hK hO H locs rs hs)
theorem pm_idiv {x y : Int32} (hd : decode M.2.1 pc = .ok (.idiv, 1)) (hne : ¬ y = 0) {q : Nat} (hq : pc + 1 = q) (kk : pm_Go M K G q ls (.int (x / y) :: st) h k n) : pm_Go M K G pc ls (.int y :: .int x :: st) h k n := by
  subst hq
  rintro ⟨p, l, e, R, s, m, args, below, meth, c, A, D, κ, α⟩ hK hO H locs rs hs
  exact lv_idiv hO.1 hO.2.1 hd hne (kk _ hK hO H locs rs hs)
theorem pm_irem {x y : Int32} (hd : decode M.2.1 pc = .ok (.irem, 1)) (hne : ¬ y = 0) {q : Nat} (hq : pc + 1 = q) (kk : pm_Go M K G q ls (.int (x - x / y * y) :: st) h k n) : pm_Go M K G pc ls (.int y :: .int x :: st) h k n := by
  subst hq
  rintro ⟨p, l, e, R, s, m, args, below, meth, c, A, D, κ, α⟩ hK hO H locs rs hs
  exact lv_irem hO.1 hO.2.1 hd hne (kk _ hK hO H locs rs hs)
theorem pm_ishl {x y : Int32} (hd : decode M.2.1 pc = .ok (.ishl, 1)) {q : Nat} (hq : pc + 1 = q) (kk : pm_Go M K G q ls (.int (x <<< (y &&& 31)) :: st) h k n) : pm_Go M K G pc ls (.int y :: .int x :: st) h k n := by
  subst hq
  rintro ⟨p, l, e, R, s, m, args, below, meth, c, A, D, κ, α⟩ hK hO H locs rs hs
  exact lv_ishl hO.1 hO.2.1 hd (kk _ hK hO H locs rs hs)
theorem pm_ishr {x y : Int32} (hd : decode M.2.1 pc = .ok (.ishr, 1)) {q : Nat} (hq : pc + 1 = q) (kk : pm_Go M K G q ls (.int (x >>> (y &&& 31)) :: st) h k n) : pm_Go M K G pc ls (.int y :: .int x :: st) h k n := by
  subst hq
  rintro ⟨p, l, e, R, s, m, args, below, meth, c, A, D, κ, α⟩ hK hO H locs rs hs
  exact lv_ishr hO.1 hO.2.1 hd (kk _ hK hO H locs rs hs)
theorem pm_iushr {x y : Int32} (hd : decode M.2.1 pc = .ok (.iushr, 1)) {q : Nat} (hq : pc + 1 = q) (kk : pm_Go M K G q ls (.int ((x.toUInt32 >>> (y.toUInt32 &&& Int32.toUInt32 31)).toInt32) :: st) h k n) : pm_Go M K G pc ls (.int y :: .int x :: st) h k n := by
  subst hq
  rintro ⟨p, l, e, R, s, m, args, below, meth, c, A, D, κ, α⟩ hK hO H locs rs hs
  exact lv_iushr hO.1 hO.2.1 hd rfl (kk _ hK hO H locs rs hs)
theorem pm_ineg {x : Int32} (hd : decode M.2.1 pc = .ok (.ineg, 1)) {q : Nat} (hq : pc + 1 = q) (kk : pm_Go M K G q ls (.int (-x) :: st) h k n) : pm_Go M K G pc ls (.int x :: st) h k n := by
  subst hq
  rintro ⟨p, l, e, R, s, m, args, below, meth, c, A, D, κ, α⟩ hK hO H locs rs hs
  exact lv_ineg hO.1 hO.2.1 hd (kk _ hK hO H locs rs hs)
theorem pm_dup {a : Value} (hd : decode M.2.1 pc = .ok (.dup, 1)) (ha : a.category = 1) {q : Nat} (hq : pc + 1 = q) (kk : pm_Go M K G q ls (a :: a :: st) h k n) : pm_Go M K G pc ls (a :: st) h k n := by
  subst hq
  rintro ⟨p, l, e, R, s, m, args, below, meth, c, A, D, κ, α⟩ hK hO H locs rs hs
  exact lv_dup hO.1 hO.2.1 hd ((pm_v_cat α _).trans ha) (kk _ hK hO H locs rs hs)
theorem pm_pop {a : Value} (hd : decode M.2.1 pc = .ok (.pop, 1)) (ha : a.category = 1) {q : Nat} (hq : pc + 1 = q) (kk : pm_Go M K G q ls st h k n) : pm_Go M K G pc ls (a :: st) h k n := by
  subst hq
  rintro ⟨p, l, e, R, s, m, args, below, meth, c, A, D, κ, α⟩ hK hO H locs rs hs
  exact lv_pop hO.1 hO.2.1 hd ((pm_v_cat α a).trans ha) (kk _ hK hO H locs rs hs)
theorem pm_dup_x1 {a b : Value} (hd : decode M.2.1 pc = .ok (.dup_x1, 1)) (ha : a.category = 1) (hb : b.category = 1) {q : Nat} (hq : pc + 1 = q) (kk : pm_Go M K G q ls (a :: b :: a :: st) h k n) : pm_Go M K G pc ls (a :: b :: st) h k n := by
  subst hq
  rintro ⟨p, l, e, R, s, m, args, below, meth, c, A, D, κ, α⟩ hK hO H locs rs hs
  exact lv_dup_x1 hO.1 hO.2.1 hd ((pm_v_cat α _).trans ha) ((pm_v_cat α _).trans hb) (kk _ hK hO H locs rs hs)
theorem pm_dup_x2 {a b d : Value} (hd : decode M.2.1 pc = .ok (.dup_x2, 1)) (ha : a.category = 1) (hb : b.category = 1) (hc : d.category = 1) {q : Nat} (hq : pc + 1 = q) (kk : pm_Go M K G q ls (a :: b :: d :: a :: st) h k n) : pm_Go M K G pc ls (a :: b :: d :: st) h k n := by
  subst hq
  rintro ⟨p, l, e, R, s, m, args, below, meth, c, A, D, κ, α⟩ hK hO H locs rs hs
  exact lv_dup_x2 hO.1 hO.2.1 hd ((pm_v_cat α _).trans ha) ((pm_v_cat α _).trans hb) ((pm_v_cat α _).trans hc) (kk _ hK hO H locs rs hs)
theorem pm_dup2 {a b : Value} (hd : decode M.2.1 pc = .ok (.dup2, 1)) (ha : a.category = 1) (hb : b.category = 1) {q : Nat} (hq : pc + 1 = q) (kk : pm_Go M K G q ls (a :: b :: a :: b :: st) h k n) : pm_Go M K G pc ls (a :: b :: st) h k n := by
  subst hq
  rintro ⟨p, l, e, R, s, m, args, below, meth, c, A, D, κ, α⟩ hK hO H locs rs hs
  exact lv_dup2_11 hO.1 hO.2.1 hd ((pm_v_cat α _).trans ha) ((pm_v_cat α _).trans hb) (kk _ hK hO H locs rs hs)
theorem pm_if_eq {x : Int32} {off : Int} {tgt : Nat} (hd : decode M.2.1 pc = .ok (.ifCond .eq off, 3)) (ht : (pc : Int) + off = (tgt : Int)) {q : Nat} (hq : pc + 3 = q) (kt : x = 0 → pm_Go M K G tgt ls st h k n) (kf : ¬ x = 0 → pm_Go M K G q ls st h k n) : pm_Go M K G pc ls (.int x :: st) h k n := by
  subst hq
  rintro ⟨p, l, e, R, s, m, args, below, meth, c, A, D, κ, α⟩ hK hO H locs rs hs
  exact lv_if_eq hO.1 hO.2.1 hd ht (fun z => kt z _ hK hO H locs rs hs) (fun z => kf z _ hK hO H locs rs hs)
theorem pm_icmp_eq {x y : Int32} {off : Int} {tgt : Nat} (hd : decode M.2.1 pc = .ok (.if_icmp .eq off, 3)) (ht : (pc : Int) + off = (tgt : Int)) {q : Nat} (hq : pc + 3 = q) (kt : x = y → pm_Go M K G tgt ls st h k n) (kf : ¬ x = y → pm_Go M K G q ls st h k n) : pm_Go M K G pc ls (.int y :: .int x :: st) h k n := by
  subst hq
  rintro ⟨p, l, e, R, s, m, args, below, meth, c, A, D, κ, α⟩ hK hO H locs rs hs
  exact lv_icmp_eq hO.1 hO.2.1 hd ht (fun z => kt z _ hK hO H locs rs hs) (fun z => kf z _ hK hO H locs rs hs)
theorem pm_if_ne {x : Int32} {off : Int} {tgt : Nat} (hd : decode M.2.1 pc = .ok (.ifCond .ne off, 3)) (ht : (pc : Int) + off = (tgt : Int)) {q : Nat} (hq : pc + 3 = q) (kt : ¬ x = 0 → pm_Go M K G tgt ls st h k n) (kf : x = 0 → pm_Go M K G q ls st h k n) : pm_Go M K G pc ls (.int x :: st) h k n := by
  subst hq
  rintro ⟨p, l, e, R, s, m, args, below, meth, c, A, D, κ, α⟩ hK hO H locs rs hs
  exact lv_if_ne hO.1 hO.2.1 hd ht (fun z => kt z _ hK hO H locs rs hs) (fun z => kf z _ hK hO H locs rs hs)
theorem pm_icmp_ne {x y : Int32} {off : Int} {tgt : Nat} (hd : decode M.2.1 pc = .ok (.if_icmp .ne off, 3)) (ht : (pc : Int) + off = (tgt : Int)) {q : Nat} (hq : pc + 3 = q) (kt : ¬ x = y → pm_Go M K G tgt ls st h k n) (kf : x = y → pm_Go M K G q ls st h k n) : pm_Go M K G pc ls (.int y :: .int x :: st) h k n := by
  subst hq
  rintro ⟨p, l, e, R, s, m, args, below, meth, c, A, D, κ, α⟩ hK hO H locs rs hs
  exact lv_icmp_ne hO.1 hO.2.1 hd ht (fun z => kt z _ hK hO H locs rs hs) (fun z => kf z _ hK hO H locs rs hs)
theorem pm_if_lt {x : Int32} {off : Int} {tgt : Nat} (hd : decode M.2.1 pc = .ok (.ifCond .lt off, 3)) (ht : (pc : Int) + off = (tgt : Int)) {q : Nat} (hq : pc + 3 = q) (kt : x < 0 → pm_Go M K G tgt ls st h k n) (kf : ¬ x < 0 → pm_Go M K G q ls st h k n) : pm_Go M K G pc ls (.int x :: st) h k n := by
  subst hq
  rintro ⟨p, l, e, R, s, m, args, below, meth, c, A, D, κ, α⟩ hK hO H locs rs hs
  exact lv_if_lt hO.1 hO.2.1 hd ht (fun z => kt z _ hK hO H locs rs hs) (fun z => kf z _ hK hO H locs rs hs)
theorem pm_icmp_lt {x y : Int32} {off : Int} {tgt : Nat} (hd : decode M.2.1 pc = .ok (.if_icmp .lt off, 3)) (ht : (pc : Int) + off = (tgt : Int)) {q : Nat} (hq : pc + 3 = q) (kt : x < y → pm_Go M K G tgt ls st h k n) (kf : ¬ x < y → pm_Go M K G q ls st h k n) : pm_Go M K G pc ls (.int y :: .int x :: st) h k n := by
  subst hq
  rintro ⟨p, l, e, R, s, m, args, below, meth, c, A, D, κ, α⟩ hK hO H locs rs hs
  exact lv_icmp_lt hO.1 hO.2.1 hd ht (fun z => kt z _ hK hO H locs rs hs) (fun z => kf z _ hK hO H locs rs hs)
theorem pm_if_ge {x : Int32} {off : Int} {tgt : Nat} (hd : decode M.2.1 pc = .ok (.ifCond .ge off, 3)) (ht : (pc : Int) + off = (tgt : Int)) {q : Nat} (hq : pc + 3 = q) (kt : 0 ≤ x → pm_Go M K G tgt ls st h k n) (kf : ¬ 0 ≤ x → pm_Go M K G q ls st h k n) : pm_Go M K G pc ls (.int x :: st) h k n := by
  subst hq
  rintro ⟨p, l, e, R, s, m, args, below, meth, c, A, D, κ, α⟩ hK hO H locs rs hs
  exact lv_if_ge hO.1 hO.2.1 hd ht (fun z => kt z _ hK hO H locs rs hs) (fun z => kf z _ hK hO H locs rs hs)
theorem pm_icmp_ge {x y : Int32} {off : Int} {tgt : Nat} (hd : decode M.2.1 pc = .ok (.if_icmp .ge off, 3)) (ht : (pc : Int) + off = (tgt : Int)) {q : Nat} (hq : pc + 3 = q) (kt : y ≤ x → pm_Go M K G tgt ls st h k n) (kf : ¬ y ≤ x → pm_Go M K G q ls st h k n) : pm_Go M K G pc ls (.int y :: .int x :: st) h k n := by
  subst hq
  rintro ⟨p, l, e, R, s, m, args, below, meth, c, A, D, κ, α⟩ hK hO H locs rs hs
  exact lv_icmp_ge hO.1 hO.2.1 hd ht (fun z => kt z _ hK hO H locs rs hs) (fun z => kf z _ hK hO H locs rs hs)
theorem pm_if_gt {x : Int32} {off : Int} {tgt : Nat} (hd : decode M.2.1 pc = .ok (.ifCond .gt off, 3)) (ht : (pc : Int) + off = (tgt : Int)) {q : Nat} (hq : pc + 3 = q) (kt : 0 < x → pm_Go M K G tgt ls st h k n) (kf : ¬ 0 < x → pm_Go M K G q ls st h k n) : pm_Go M K G pc ls (.int x :: st) h k n := by
  subst hq
  rintro ⟨p, l, e, R, s, m, args, below, meth, c, A, D, κ, α⟩ hK hO H locs rs hs
  exact lv_if_gt hO.1 hO.2.1 hd ht (fun z => kt z _ hK hO H locs rs hs) (fun z => kf z _ hK hO H locs rs hs)
theorem pm_icmp_gt {x y : Int32} {off : Int} {tgt : Nat} (hd : decode M.2.1 pc = .ok (.if_icmp .gt off, 3)) (ht : (pc : Int) + off = (tgt : Int)) {q : Nat} (hq : pc + 3 = q) (kt : y < x → pm_Go M K G tgt ls st h k n) (kf : ¬ y < x → pm_Go M K G q ls st h k n) : pm_Go M K G pc ls (.int y :: .int x :: st) h k n := by
  subst hq
  rintro ⟨p, l, e, R, s, m, args, below, meth, c, A, D, κ, α⟩ hK hO H locs rs hs
  exact lv_icmp_gt hO.1 hO.2.1 hd ht (fun z => kt z _ hK hO H locs rs hs) (fun z => kf z _ hK hO H locs rs hs)
theorem pm_if_le {x : Int32} {off : Int} {tgt : Nat} (hd : decode M.2.1 pc = .ok (.ifCond .le off, 3)) (ht : (pc : Int) + off = (tgt : Int)) {q : Nat} (hq : pc + 3 = q) (kt : x ≤ 0 → pm_Go M K G tgt ls st h k n) (kf : ¬ x ≤ 0 → pm_Go M K G q ls st h k n) : pm_Go M K G pc ls (.int x :: st) h k n := by
  subst hq
  rintro ⟨p, l, e, R, s, m, args, below, meth, c, A, D, κ, α⟩ hK hO H locs rs hs
  exact lv_if_le hO.1 hO.2.1 hd ht (fun z => kt z _ hK hO H locs rs hs) (fun z => kf z _ hK hO H locs rs hs)
theorem pm_icmp_le {x y : Int32} {off : Int} {tgt : Nat} (hd : decode M.2.1 pc = .ok (.if_icmp .le off, 3)) (ht : (pc : Int) + off = (tgt : Int)) {q : Nat} (hq : pc + 3 = q) (kt : x ≤ y → pm_Go M K G tgt ls st h k n) (kf : ¬ x ≤ y → pm_Go M K G q ls st h k n) : pm_Go M K G pc ls (.int y :: .int x :: st) h k n := by
  subst hq
  rintro ⟨p, l, e, R, s, m, args, below, meth, c, A, D, κ, α⟩ hK hO H locs rs hs
  exact lv_icmp_le hO.1 hO.2.1 hd ht (fun z => kt z _ hK hO H locs rs hs) (fun z => kf z _ hK hO H locs rs hs)
theorem pm_goto {off : Int} {tgt : Nat} (hd : decode M.2.1 pc = .ok (.goto off, 3)) (ht : (pc : Int) + off = (tgt : Int)) (kk : pm_Go M K G tgt ls st h k n) : pm_Go M K G pc ls st h k n := by
  rintro ⟨p, l, e, R, s, m, args, below, meth, c, A, D, κ, α⟩ hK hO H locs rs hs
  exact lv_goto hO.1 hO.2.1 hd ht (kk _ hK hO H locs rs hs)
/-! fields -/
/-- field kf of the kind ci, by the number idx of own's pool -/
def pm_Fl (own : String) (idx ci kf : Nat) : Prop := ∃ (C : String) (T : u_T) (N : Nat), vwCl[ci]? = some (C, T, N) ∧ kf < N ∧ (∀ w ∈ u_ws C T N, w ∈ pm_ws) ∧ (Cond.fieldLink own idx (T kf).1 (T kf).2.1 (T kf).2.2.1 ∈ pm_ws ∨ ∃ host, Cond.fieldLinkNest own idx (T kf).1 (T kf).2.1 (T kf).2.2.1 host ∈ pm_nw)
/-- .. that may be written; fin: in a constructor of own -/
def pm_Fp (own : String) (idx ci kf : Nat) (ty : FieldType) (fin : Bool) : Prop := ∃ (C : String) (T : u_T) (N : Nat) (ty0 : Nat → FieldType), vwCl[ci]? = some (C, T, N) ∧ kf < N ∧ (∀ w ∈ u_ws C T N, w ∈ pm_ws) ∧ (Cond.fieldLink own idx (T kf).1 (T kf).2.1 (T kf).2.2.1 ∈ pm_ws ∨ (fin = false ∧ ∃ host, Cond.fieldLinkNest own idx (T kf).1 (T kf).2.1 (T kf).2.2.1 host ∈ pm_nw))
  ∧ (∀ j, j < N → parseFieldDescriptor (T j).2.2.1 = some (ty0 j)) ∧ (∀ a, a < N → ∀ b, b < N → a ≠ b → (T a).2.1 ≠ (T b).2.1) ∧ (T kf).2.2.2 = fin ∧ parseFieldDescriptor (T kf).2.2.1 = some ty ∧ (fin = true → (T kf).1 = own)
theorem pm_get {idx ci kf a : Nat} {fs : List Value} {v : Value} (hf : pm_Fl M.1.cls idx ci kf) (hd : decode M.2.1 pc = .ok (.getfield idx, 3)) (hh : h[a]? = some (.inl (ci, fs))) (hv : fs[kf]? = some v) {q : Nat} (hq : pc + 3 = q) (kk : pm_Go M K G q ls (v :: st) h k n) : pm_Go M K G pc ls (.ref a :: st) h k n := by
  subst hq
  rintro ⟨p, l, e, R, s, m, args, below, meth, c, A, D, κ, α⟩ hK hO H locs rs hs
  obtain ⟨hx, hb, hr, hml, hown, hts, hKn, hA, hlk, hN, hnm, hstt, htab⟩ := id hO
  obtain ⟨C, T, N, hc, hk, hin, hlk⟩ := hf
  have hv' : (fs.map (pm_v α))[kf]? = some (pm_v α v) := by rw [List.getElem?_map, hv]; rfl
  have he : (pm_w α κ h)[a]? = some (α a, .inr (ci, fs.map (pm_v α))) := pm_w_at hh
  rcases hlk with hlk | ⟨host, hlk⟩
  · exact va_get hx hb hts hin hown hKn hs.1 a he hc kf hk (hts _ hlk) (fun _ z => z) hv' hd (kk _ hK hO H locs rs hs)
  · exact va_getN hx hb hts hin hown hKn hs.1 a he hc kf hk (va_Nw.use (pm_isN_on (pm_nw_ok _ hlk)) (hN.1 _ hlk)) (fun _ z => z) hv' hd (kk _ hK hO H locs rs hs)
theorem pm_put {idx ci kf a : Nat} {fs : List Value} {v : Value} {ty : FieldType} (hf : pm_Fp M.1.cls idx ci kf ty false) (hd : decode M.2.1 pc = .ok (.putfield idx, 3)) (hh : h[a]? = some (.inl (ci, fs))) (hl : kf < fs.length) (hnw : ∀ α, narrow ty (pm_v α v) = pm_v α v) (hft : ∀ α, fits ty (pm_v α v) = true) {q : Nat} (hq : pc + 3 = q) (kk : pm_Go M K G q ls st (h.set a (.inl (ci, fs.set kf v))) k n) : pm_Go M K G pc ls (v :: .ref a :: st) h k n := by
  subst hq
  rintro ⟨p, l, e, R, s, m, args, below, meth, c, A, D, κ, α⟩ hK hO H locs rs hs
  obtain ⟨hx, hb, hr, hml, hown, hts, hKn, hA, hlk, hN, hnm, hstt, htab⟩ := id hO
  obtain ⟨C, T, N, ty0, hc, hk, hin, hlk, hty, hne, hfin, hd9, -⟩ := hf
  have he : (pm_w α κ h)[a]? = some (α a, .inr (ci, fs.map (pm_v α))) := pm_w_at hh
  have e1 : (pm_w α κ h).set a (α a, .inr (ci, (fs.map (pm_v α)).set kf (pm_v α v))) = pm_w α κ (h.set a (.inl (ci, fs.set kf v))) := by
    rw [← pm_w_set]
    simp [pm_e, List.map_set]
  have hlen : kf < (fs.map (pm_v α)).length := by simpa using hl
  rcases hlk with hlk | ⟨-, host, hlk⟩
  · refine va_put hx hb hts hin ty0 hty hne hown hKn hs.1 hs.2.1 hs.2.2.1 a he hc kf hk (hts _ hlk) (fun _ z => z) hfin hd9 (hnw α) (hft α) hlen hd (fun H1 locs1 hP1 hD1 hS1 => ?_)
    rw [e1] at hP1 hD1
    exact kk _ hK hO H1 locs1 rs ⟨hP1, hD1, hS1, hs.2.2.2⟩
  · refine va_putN hx hb hts hin ty0 hty hne hown hKn hs.1 hs.2.1 hs.2.2.1 a he hc kf hk (va_Nw.use (pm_isN_on (pm_nw_ok _ hlk)) (hN.1 _ hlk)) (fun _ z => z) hfin hd9 (hnw α) (hft α) hlen hd (fun H1 locs1 hP1 hD1 hS1 => ?_)
    rw [e1] at hP1 hD1
    exact kk _ hK hO H1 locs1 rs ⟨hP1, hD1, hS1, hs.2.2.2⟩
theorem pm_putF {idx ci kf a : Nat} {fs : List Value} {v : Value} {ty : FieldType} (hf : pm_Fp M.1.cls idx ci kf ty true) (hM : M.1.name = "<init>") (hd : decode M.2.1 pc = .ok (.putfield idx, 3)) (hh : h[a]? = some (.inl (ci, fs))) (hl : kf < fs.length) (hnw : ∀ α, narrow ty (pm_v α v) = pm_v α v) (hft : ∀ α, fits ty (pm_v α v) = true) {q : Nat} (hq : pc + 3 = q) (kk : pm_Go M K G q ls st (h.set a (.inl (ci, fs.set kf v))) k n) : pm_Go M K G pc ls (v :: .ref a :: st) h k n := by
  subst hq
  rintro ⟨p, l, e, R, s, m, args, below, meth, c, A, D, κ, α⟩ hK hO H locs rs hs
  obtain ⟨hx, hb, hr, hml, hown, hts, hKn, hA, hlk, hN, hnm, hstt, htab⟩ := id hO
  obtain ⟨C, T, N, ty0, hc, hk, hin, hlk, hty, hne, hfin, hd9, hdc⟩ := hf
  have he : (pm_w α κ h)[a]? = some (α a, .inr (ci, fs.map (pm_v α))) := pm_w_at hh
  have e1 : (pm_w α κ h).set a (α a, .inr (ci, (fs.map (pm_v α)).set kf (pm_v α v))) = pm_w α κ (h.set a (.inl (ci, fs.set kf v))) := by
    rw [← pm_w_set]
    simp [pm_e, List.map_set]
  have hlen : kf < (fs.map (pm_v α)).length := by simpa using hl
  rcases hlk with hlk | ⟨hz, -⟩
  · refine va_putF hx hb hts hin ty0 hty hne hown hKn hs.1 hs.2.1 hs.2.2.1 a he hc kf hk (hts _ hlk) (fun _ z => z) hfin (hnm.trans hM) (hdc rfl) hd9 (hnw α) (hft α) hlen hd (fun H1 locs1 hP1 hD1 hS1 => ?_)
    rw [e1] at hP1 hD1
    exact kk _ hK hO H1 locs1 rs ⟨hP1, hD1, hS1, hs.2.2.2⟩
  · cases hz
/-! arrays -/
theorem pm_iald {a n0 : Nat} {f : Nat → Int32} {i : Int32} (hd : decode M.2.1 pc = .ok (.iaload, 1)) (hh : h[a]? = some (pm_i n0 f)) (hi : vp_in i n0) {q : Nat} (hq : pc + 1 = q) (kk : pm_Go M K G q ls (.int (f i.toNatClampNeg) :: st) h k n) : pm_Go M K G pc ls (.int i :: .ref a :: st) h k n := by
  subst hq
  rintro ⟨p, l, e, R, s, m, args, below, meth, c, A, D, κ, α⟩ hK hO H locs rs hs
  obtain ⟨hx, hb, hr, hml, hown, hts, hKn, hA, hlk, hN, hnm, hstt, htab⟩ := id hO
  exact va_iald hx hb hKn hs.1 a 0 (pm_w_at hh) rfl hi hd (kk _ hK hO H locs rs hs)
theorem pm_zald {a n0 : Nat} {f : Nat → Int32} {i : Int32} (hd : decode M.2.1 pc = .ok (.baload, 1)) (hh : h[a]? = some (pm_z n0 f)) (hi : vp_in i n0) {q : Nat} (hq : pc + 1 = q) (kk : pm_Go M K G q ls (.int (f i.toNatClampNeg) :: st) h k n) : pm_Go M K G pc ls (.int i :: .ref a :: st) h k n := by
  subst hq
  rintro ⟨p, l, e, R, s, m, args, below, meth, c, A, D, κ, α⟩ hK hO H locs rs hs
  obtain ⟨hx, hb, hr, hml, hown, hts, hKn, hA, hlk, hN, hnm, hstt, htab⟩ := id hO
  exact va_zald hx hb hKn hs.1 a 1 (pm_w_at hh) rfl hi hd (kk _ hK hO H locs rs hs)
theorem pm_lald {a n0 : Nat} {f : Nat → Int64} {i : Int32} (hd : decode M.2.1 pc = .ok (.laload, 1)) (hh : h[a]? = some (pm_l n0 f)) (hi : vp_in i n0) {q : Nat} (hq : pc + 1 = q) (kk : pm_Go M K G q ls (.long (f i.toNatClampNeg) :: st) h k n) : pm_Go M K G pc ls (.int i :: .ref a :: st) h k n := by
  subst hq
  rintro ⟨p, l, e, R, s, m, args, below, meth, c, A, D, κ, α⟩ hK hO H locs rs hs
  obtain ⟨hx, hb, hr, hml, hown, hts, hKn, hA, hlk, hN, hnm, hstt, htab⟩ := id hO
  exact va_lald hx hb hKn hs.1 a 2 (pm_w_at hh) rfl hi hd (kk _ hK hO H locs rs hs)
theorem pm_iast {a n0 : Nat} {f : Nat → Int32} {i : Int32} {x : Int32} (hd : decode M.2.1 pc = .ok (.iastore, 1)) (hh : h[a]? = some (pm_i n0 f)) (hi : vp_in i n0) {q : Nat} (hq : pc + 1 = q) (kk : pm_Go M K G q ls st (h.set a (pm_i n0 (upd f i.toNatClampNeg x))) k n) : pm_Go M K G pc ls (.int x :: .int i :: .ref a :: st) h k n := by
  subst hq
  rintro ⟨p, l, e, R, s, m, args, below, meth, c, A, D, κ, α⟩ hK hO H locs rs hs
  obtain ⟨hx, hb, hr, hml, hown, hts, hKn, hA, hlk, hN, hnm, hstt, htab⟩ := id hO
  refine va_iast hx hb hKn hs.1 hs.2.1 hs.2.2.1 a 0 (pm_w_at hh) rfl hi hd (fun H1 locs1 hP1 hD1 hS1 => ?_)
  have e1 := pm_w_set (α := α) (κ := κ) h a (pm_i n0 (upd f i.toNatClampNeg x))
  exact kk _ hK hO H1 locs1 rs ⟨by rw [← e1]; exact hP1, by rw [← e1]; exact hD1, hS1, hs.2.2.2⟩
theorem pm_zast {a n0 : Nat} {f : Nat → Int32} {i : Int32} {x : Int32} (hd : decode M.2.1 pc = .ok (.bastore, 1)) (hh : h[a]? = some (pm_z n0 f)) (hi : vp_in i n0) {q : Nat} (hq : pc + 1 = q) (kk : pm_Go M K G q ls st (h.set a (pm_z n0 (upd f i.toNatClampNeg (vp_nar .boolean x)))) k n) : pm_Go M K G pc ls (.int x :: .int i :: .ref a :: st) h k n := by
  subst hq
  rintro ⟨p, l, e, R, s, m, args, below, meth, c, A, D, κ, α⟩ hK hO H locs rs hs
  obtain ⟨hx, hb, hr, hml, hown, hts, hKn, hA, hlk, hN, hnm, hstt, htab⟩ := id hO
  refine va_zast hx hb hKn hs.1 hs.2.1 hs.2.2.1 a 1 (pm_w_at hh) rfl hi hd (fun H1 locs1 hP1 hD1 hS1 => ?_)
  have e1 := pm_w_set (α := α) (κ := κ) h a (pm_z n0 (upd f i.toNatClampNeg (vp_nar .boolean x)))
  exact kk _ hK hO H1 locs1 rs ⟨by rw [← e1]; exact hP1, by rw [← e1]; exact hD1, hS1, hs.2.2.2⟩
theorem pm_last {a n0 : Nat} {f : Nat → Int64} {i : Int32} {x : Int64} (hd : decode M.2.1 pc = .ok (.lastore, 1)) (hh : h[a]? = some (pm_l n0 f)) (hi : vp_in i n0) {q : Nat} (hq : pc + 1 = q) (kk : pm_Go M K G q ls st (h.set a (pm_l n0 (vp_updL f i.toNatClampNeg x))) k n) : pm_Go M K G pc ls (.long x :: .int i :: .ref a :: st) h k n := by
  subst hq
  rintro ⟨p, l, e, R, s, m, args, below, meth, c, A, D, κ, α⟩ hK hO H locs rs hs
  obtain ⟨hx, hb, hr, hml, hown, hts, hKn, hA, hlk, hN, hnm, hstt, htab⟩ := id hO
  refine va_last hx hb hKn hs.1 hs.2.1 hs.2.2.1 a 2 (pm_w_at hh) rfl hi hd (fun H1 locs1 hP1 hD1 hS1 => ?_)
  have e1 := pm_w_set (α := α) (κ := κ) h a (pm_l n0 (vp_updL f i.toNatClampNeg x))
  exact kk _ hK hO H1 locs1 rs ⟨by rw [← e1]; exact hP1, by rw [← e1]; exact hD1, hS1, hs.2.2.2⟩
theorem pm_ilen {a n0 : Nat} {f : Nat → Int32} (hd : decode M.2.1 pc = .ok (.arraylength, 1)) (hh : h[a]? = some (pm_i n0 f)) {q : Nat} (hq : pc + 1 = q) (kk : pm_Go M K G q ls (.int (Int32.ofNat n0) :: st) h k n) : pm_Go M K G pc ls (.ref a :: st) h k n := by
  subst hq
  rintro ⟨p, l, e, R, s, m, args, below, meth, c, A, D, κ, α⟩ hK hO H locs rs hs
  obtain ⟨hx, hb, hr, hml, hown, hts, hKn, hA, hlk, hN, hnm, hstt, htab⟩ := id hO
  exact va_alen hx hb hKn hs.1 a 0 (pm_w_at hh) rfl rfl hd (kk _ hK hO H locs rs hs)
theorem pm_zlen {a n0 : Nat} {f : Nat → Int32} (hd : decode M.2.1 pc = .ok (.arraylength, 1)) (hh : h[a]? = some (pm_z n0 f)) {q : Nat} (hq : pc + 1 = q) (kk : pm_Go M K G q ls (.int (Int32.ofNat n0) :: st) h k n) : pm_Go M K G pc ls (.ref a :: st) h k n := by
  subst hq
  rintro ⟨p, l, e, R, s, m, args, below, meth, c, A, D, κ, α⟩ hK hO H locs rs hs
  obtain ⟨hx, hb, hr, hml, hown, hts, hKn, hA, hlk, hN, hnm, hstt, htab⟩ := id hO
  exact va_alen hx hb hKn hs.1 a 1 (pm_w_at hh) rfl rfl hd (kk _ hK hO H locs rs hs)
end Rows
/-! contracts, calls, ends -/
def pm_rm (d mc ms : Nat) : Room := { frames := d, cells := mc, slots := ms, locals := 40 * d }
def pm_wsM (M : pm_M) : List Cond := Cond.code M.1 M.2.1 M.2.2.1 M.2.2.2.1 :: pm_ws
def pm_Pc (D : va_G) (κ : FieldType → ClassId) (α : Nat → Nat) (as : List Value) (h : pm_H) (sz : Nat) : Array Value → State → Prop := va_Pc (as.map (pm_v α)) (fun U => U.heap.size = sz ∧ va_P D vwCl (pm_w α κ h) U.heap ∧ va_K D vwCl (pm_ty κ) U ∧ va_D (fun _ => True) (pm_w α κ h) ∧ pm_N (va_A (pm_w α κ h) sz) U)
def pm_Qc (D : va_G) (κ : FieldType → ClassId) (α : Nat → Nat) (r : Option Value) (h' : pm_H) (A : Nat → Prop) : Array Value → State → Outcome → State → Prop := fun _ st o t => o = .returned (r.map (pm_v α)) ∧ va_P D vwCl (pm_w α κ h') t.heap ∧ va_K D vwCl (pm_ty κ) t ∧ va_D A (pm_w α κ h') ∧ va_F A st t
/-- M with the arguments as, in the heap h: it returns r, the heap is h' -/
def pm_Sem (l : Launch) (d : Nat) (M : pm_M) (as : List Value) (h : pm_H) (r : Option Value) (h' : pm_H) : Prop := ∀ (D : va_G) (κ : FieldType → ClassId) (α : Nat → Nat) (sz : Nat), Met l M.1 (pm_wsM M) (pm_rm d 0 0) (pm_Pc D κ α as h sz) (pm_Qc D κ α r h' (va_A (pm_w α κ h) sz)) 0 0 (va_A (pm_w α κ h) sz)
def pm_Kd (l : Launch) (d mc ms : Nat) (X : pm_X) : Prop := X.2.1 = l ∧ d ≤ X.2.2.2.1.frames ∧ 40 * d ≤ X.2.2.2.1.locals ∧ mc ≤ X.2.2.2.1.cells ∧ ms ≤ X.2.2.2.1.slots
/-- what the tables say of a method with np parameters -/
def pm_Mo (M : pm_M) (np : Nat) : Prop := Cond.code M.1 M.2.1 M.2.2.1 M.2.2.2.1 ∈ pm_ws ∧ plainName M.1.cls = true ∧ (M.1.cls ≠ "java/lang/invoke/MethodHandle" ∧ M.1.cls ≠ "java/lang/invoke/VarHandle") ∧ (parseMethodDescriptor M.1.desc).map (fun d => d.parameters.length) = some np ∧ Cond.initialized M.1.cls ∈ pm_ws ∧ M.2.2.1 ≤ 21 ∧ M.2.2.2.2 = []
def pm_Lk (own : String) (idx : Nat) (y : MethodName) : Prop := Cond.methodLink own idx y ∈ pm_ws ∨ ∃ host, Cond.methodLinkNest own idx y host ∈ pm_nw
theorem pm_good {M : pm_M} (h : Cond.code M.1 M.2.1 M.2.2.1 M.2.2.2.1 ∈ pm_ws) : GoodIn pm_ws (pm_wsM M) := by
  intro w hw
  rcases List.mem_cons.mp hw with rfl | hw
  · exact ⟨h, pm_ws_good h⟩
  · exact ⟨hw, pm_ws_good hw⟩
theorem pm_cats (α : Nat → Nat) (st : List Value) : ((st.map (pm_v α)).map fun v => v.category) = st.map fun v => v.category := by
  simp [List.map_map, Function.comp_def, pm_v_cat]
theorem pm_fr {A : Nat → Prop} {w : va_W} {s : State} {H : Heap} {locs : List Loc} (hD : va_D A w) (hS : va_S A s.heap H locs) (hA : ∀ q, s.heap.size ≤ q → A q) : ∀ q, va_A w H.size q → A q := by
  intro q hq
  rcases hq with ⟨j, e9, hj⟩ | hq
  · exact hD.2 j _ hj
  · exact hA q (Nat.le_trans hS.1 hq)
theorem pm_blind {D : va_G} {κ : FieldType → ClassId} {α : Nat → Nat} {as : List Value} {h : pm_H} {sz : Nat} : FrameBlind (pm_Pc D κ α as h sz) := by
  intro a U g mk q
  obtain ⟨q0, q1, qP, qK, qD, qN⟩ := q
  exact ⟨q0, q1, qP, va_K.moved (u := U) (U := U.calling g mk a) (Vm.Alike.refl U.vm) qK, qD, qN.blind⟩
theorem pm_pre {D : va_G} {κ : FieldType → ClassId} {α : Nat → Nat} {as : List Value} {h : pm_H} {A : Nat → Prop} {s U : State} {H : Heap} {locs : List Loc} (hP : va_P D vwCl (pm_w α κ h) H) (hD : va_D A (pm_w α κ h)) (hS : va_S A s.heap H locs) (hA : ∀ q, s.heap.size ≤ q → A q) (hKn : va_K D vwCl (pm_ty κ) s) (hN : pm_N A s) (hU : U.heap = H) (hW : s.WarmedH U.vm) : pm_Pc D κ α as h H.size (as.map (pm_v α)).toArray U :=
  ⟨rfl, by rw [hU], by rw [hU]; exact hP, va_K.moved hW.alike hKn, hD.weaken (fun _ _ _ _ => trivial), hN.down hS hU hW (pm_fr hD hS hA)⟩
theorem pm_after {p : Program} {l : Launch} {e : Env} {R : Room} {s : State} {m : MethodId} {args : Array Value} {below : List Frame} {meth : Method} {c : Code} {H : Heap} {locs : List Loc} {k n pc : Nat} {Q : State → Prop} {rs : Array Slot} {st0 st : List Value} {D : va_G} {κ : FieldType → ClassId} {α : Nat → Nat} {r : Option Value} {h h' : pm_H} {A : Nat → Prop} {a : Array Value}
    (run : va_Run p l e R s m args below meth c H locs k n 0 0 (F0 m pc rs st0) (st.map (pm_v α)) (pm_Qc D κ α r h' (va_A (pm_w α κ h) H.size) a) (va_A (pm_w α κ h) H.size)) (hD : va_D A (pm_w α κ h)) (hS : va_S A s.heap H locs) (hA : ∀ q, s.heap.size ≤ q → A q)
    (kk : ∀ (H1 : Heap) (locs1 : List Loc), va_P D vwCl (pm_w α κ h') H1 → va_D A (pm_w α κ h') → va_S A s.heap H1 locs1 → W p l e R s m args below meth c H1 locs1 k n Q (F0 m (pc + 3) rs ((r.toList ++ st).map (pm_v α)))) : W p l e R s m args below meth c H locs k n Q (F0 m pc rs st0) := by
  intro T hT X
  obtain ⟨v, st₀, t, T', L, h0, X', hL, e1, e2, ⟨hv, hP', hK', hD', hF⟩, st9⟩ := run T hT X
  have hfr := pm_fr hD hS hA
  cases hv
  obtain ⟨hz, hk9⟩ := hF
  rw [h0] at hz hk9
  have hS' : va_S A s.heap T'.heap (locs ++ L) := ⟨Nat.le_trans hS.1 (by rw [e1]; exact hz), fun q h1 h2 => by rw [e1, hk9 q (Nat.lt_of_lt_of_le h1 hS.1) (fun z => h2 (hfr q z))]; exact hS.2.1 q h1 h2, fun q hq => by
    rcases List.mem_append.mp hq with z | z
    · exact hS.2.2 q z
    · exact hfr _ (hL q z)⟩
  obtain ⟨t2, a1, b1⟩ := kk T'.heap (locs ++ L) (by rw [e1]; exact hP') (hD'.weaken (fun _ q _ z => hfr q.1 z)) hS' T' rfl X'
  have e9 : (r.toList ++ st).map (pm_v α) = (r.map (pm_v α)).toList ++ st.map (pm_v α) := by cases r <;> simp
  rw [e9] at a1
  exact ⟨t2, st9 t2 a1, b1⟩
section Calls
variable {M : pm_M} {K : pm_X → Prop} {G : pm_X → State → Prop} {pc : Nat} {ls : List (Option Value)} {st stk : List Value} {h : pm_H} {k n : Nat} {l : Launch} {d d' mc ms idx np : Nat} {M' : pm_M} {as : List Value} {r : Option Value} {h' : pm_H}
theorem pm_callS (hK : ∀ X, K X → pm_Kd l d mc ms X) (hM : pm_Sem l d' M' as h r h') (ho : pm_Mo M' np) (hst : Cond.static M'.1 ∈ pm_ws) (hlk : pm_Lk M.1.cls idx M'.1) (hd : decode M.2.1 pc = .ok (.invokestatic idx, 3)) (hdd : d' + 1 ≤ d) (hn : as.length = np) (hstk : stk = as.reverse ++ st) (hrest : (st.map fun v => v.category).sum ≤ 8) (hk1 : k ≤ mc) (hk2 : n ≤ ms)
    {q : Nat} (hq : pc + 3 = q) (kk : pm_Go M K G q ls (r.toList ++ st) h' k n) : pm_Go M K G pc ls stk h k n := by
  subst hq
  rintro ⟨p, l1, e, R, s, m, args, below, meth, c, A, D, κ, α⟩ hKX hO H locs rs hs
  obtain ⟨hx, hb, hr, hml, hown, hts, hKn, hA, hlk9, hN, hnm, hstt, htab⟩ := id hO
  obtain ⟨hl1, hf1, hf2, hf3, hf4⟩ := hK _ hKX
  dsimp only at hl1 hf1 hf2 hf3 hf4
  subst hl1
  obtain ⟨hP, hD, hS, hL⟩ := id hs
  obtain ⟨o1, o2, o3, o4, o5, o6, o7⟩ := ho
  have hstack : stk.map (pm_v α) = (as.map (pm_v α)).reverse ++ st.map (pm_v α) := by rw [hstk, List.map_append, List.map_reverse]
  have hcat : 2 * (F0 m pc rs (stk.map (pm_v α))).monitorRoom + ((st.map (pm_v α)).map fun v => v.category).sum ≤ 8 := lv_room (by rw [pm_cats]; exact hrest)
  have hroom : (pm_rm d' 0 0).frames + 1 ≤ R.frames ∧ 8 + (M'.2.2.1 + 11) + (pm_rm d' 0 0).locals ≤ R.locals := by
    simp only [pm_rm]
    constructor <;> omega
  have run : va_Run p l1 e R s m args below meth c H locs k n 0 0 (F0 m pc rs (stk.map (pm_v α))) (st.map (pm_v α)) (pm_Qc D κ α r h' (va_A (pm_w α κ h) H.size) (as.map (pm_v α)).toArray) (va_A (pm_w α κ h) H.size) := by
    rcases hlk with hlk | ⟨host, hlk⟩
    · exact va_runS (Ts := pm_ws) (own := M.1.cls) ⟨hx, hb, hml, hown, hts⟩ (hM D κ α H.size) ⟨callB_of np hts (pm_good o1) rfl rfl rfl (hts _ o5) (hts _ hlk) ⟨o3.1, o3.2, o4⟩ hroom, hts _ hst⟩ ⟨pm_blind, fun U hU hW => pm_pre hP hD hS hA hKn hN hU hW⟩ rfl (by simpa using hn) hL.1 hstack hcat hd ⟨by omega, by omega⟩
    · exact va_runSN (Ts := pm_ws) (own := M.1.cls) ⟨hx, hb, hml, hown, hts⟩ (hM D κ α H.size) ⟨va_cnB np hts (pm_good o1) rfl rfl rfl (hN.1 _ hlk) (hts _ o5) ⟨o3.1, o3.2, o4⟩ hroom, hts _ hst, trivial⟩ ⟨pm_blind, fun U hU hW => pm_pre hP hD hS hA hKn hN hU hW⟩ rfl (by simpa using hn) hL.1 hstack hcat hd ⟨by omega, by omega⟩
  exact pm_after run hD hS hA (fun H1 locs1 hP1 hD1 hS1 => kk _ hKX hO H1 locs1 rs ⟨hP1, hD1, hS1, hL⟩)
theorem pm_callV {a ci : Nat} {fs : List Value} {cq : vw_C} (hK : ∀ X, K X → pm_Kd l d mc ms X) (hM : pm_Sem l d' M' (.ref a :: as) h r h') (ho : pm_Mo M' np) (hin : Cond.instanceMethod M'.1 ∈ pm_ws) (hse : Cond.selects M'.1.cls M'.1 M'.1 ∈ pm_ws) (hlk : pm_Lk M.1.cls idx M'.1) (hd : decode M.2.1 pc = .ok (.invokevirtual idx, 3)) (hdd : d' + 1 ≤ d) (hn : as.length = np) (hstk : stk = as.reverse ++ .ref a :: st) (hrest : (st.map fun v => v.category).sum ≤ 8) (hk1 : k ≤ mc) (hk2 : n ≤ ms)
    (hh : h[a]? = some (.inl (ci, fs))) (hc : vwCl[ci]? = some cq) (hcq : cq.1 = M'.1.cls)
    {q : Nat} (hq : pc + 3 = q) (kk : pm_Go M K G q ls (r.toList ++ st) h' k n) : pm_Go M K G pc ls stk h k n := by
  subst hq
  rintro ⟨p, l1, e, R, s, m, args, below, meth, c, A, D, κ, α⟩ hKX hO H locs rs hs
  obtain ⟨hx, hb, hr, hml, hown, hts, hKn, hA, hlk9, hN, hnm, hstt, htab⟩ := id hO
  obtain ⟨hl1, hf1, hf2, hf3, hf4⟩ := hK _ hKX
  dsimp only at hl1 hf1 hf2 hf3 hf4
  subst hl1
  obtain ⟨hP, hD, hS, hL⟩ := id hs
  obtain ⟨o1, o2, o3, o4, o5, o6, o7⟩ := ho
  have he : (pm_w α κ h)[a]? = some (α a, .inr (ci, fs.map (pm_v α))) := pm_w_at hh
  have hrecv := va_recv hKn hP hc he
  rw [hcq] at hrecv
  have hstack : stk.map (pm_v α) = (as.map (pm_v α)).reverse ++ .ref (α a) :: st.map (pm_v α) := by rw [hstk, List.map_append, List.map_reverse]; rfl
  have hcat : 2 * (F0 m pc rs (stk.map (pm_v α))).monitorRoom + ((st.map (pm_v α)).map fun v => v.category).sum ≤ 8 := lv_room (by rw [pm_cats]; exact hrest)
  have hroom : (pm_rm d' 0 0).frames + 1 ≤ R.frames ∧ 8 + (M'.2.2.1 + 11) + (pm_rm d' 0 0).locals ≤ R.locals := by
    simp only [pm_rm]
    constructor <;> omega
  have run : va_Run p l1 e R s m args below meth c H locs k n 0 0 (F0 m pc rs (stk.map (pm_v α))) (st.map (pm_v α)) (pm_Qc D κ α r h' (va_A (pm_w α κ h) H.size) (Value.ref (α a) :: as.map (pm_v α)).toArray) (va_A (pm_w α κ h) H.size) := by
    rcases hlk with hlk | ⟨host, hlk⟩
    · exact va_runV (Ts := pm_ws) (own := M.1.cls) (C := M'.1.cls) ⟨hx, hb, hml, hown, hts⟩ (hM D κ α H.size) ⟨callB_of np hts (pm_good o1) rfl rfl rfl (hts _ o5) (hts _ hlk) ⟨o3.1, o3.2, o4⟩ hroom, hts _ hin, hts _ hse⟩ ⟨pm_blind, hrecv, fun U hU hW => pm_pre (as := .ref a :: as) hP hD hS hA hKn hN hU hW⟩ rfl (by simpa using hn) hL.1 hstack hcat hd ⟨by omega, by omega⟩
    · exact va_runVN (Ts := pm_ws) (own := M.1.cls) (C := M'.1.cls) ⟨hx, hb, hml, hown, hts⟩ (hM D κ α H.size) ⟨va_cnB np hts (pm_good o1) rfl rfl rfl (hN.1 _ hlk) (hts _ o5) ⟨o3.1, o3.2, o4⟩ hroom, hts _ hin, hts _ hse⟩ ⟨pm_blind, hrecv, fun U hU hW => pm_pre (as := .ref a :: as) hP hD hS hA hKn hN hU hW⟩ rfl (by simpa using hn) hL.1 hstack hcat hd ⟨by omega, by omega⟩
  exact pm_after run hD hS hA (fun H1 locs1 hP1 hD1 hS1 => kk _ hKX hO H1 locs1 rs ⟨hP1, hD1, hS1, hL⟩)
end Calls
/-! a body -/
def pm_G (h0 : pm_H) (r : Option Value) (h' : pm_H) (X : pm_X) : State → Prop := match X with
  | (_, _, _, _, s, _, args, below, _, _, _, D, κ, α) => MQ below (pm_Qc D κ α r h' (va_A (pm_w α κ h0) s.heap.size)) args s 0 0 (va_A (pm_w α κ h0) s.heap.size)
def pm_K (l : Launch) (d : Nat) (h0 : pm_H) (X : pm_X) : Prop := match X with
  | (_, l', _, R, s, _, _, _, _, _, A, _, κ, α) => l' = l ∧ R = pm_rm d 0 0 ∧ A = va_A (pm_w α κ h0) s.heap.size
/-- the ends that a body may come to -/
def pm_Ret (M : pm_M) (K : pm_X → Prop) (G : pm_X → State → Prop) (r : Option Value) (h' : pm_H) : Prop := match r with
  | some (.int x) => ∀ (pc : Nat) (ls : List (Option Value)), decode M.2.1 pc = .ok (.ireturn, 1) → pm_Go M K G pc ls [.int x] h' 0 0
  | none => ∀ (pc : Nat) (ls : List (Option Value)), decode M.2.1 pc = .ok (.return_, 1) → pm_Go M K G pc ls [] h' 0 0
  | _ => True
def pm_nar (M : pm_M) (r : Option Value) : Prop := match r with
  | some (.int x) => ∃ ty, M.2.2.2.1 = some ty ∧ narrow ty (.int x) = .int x
  | none => M.2.2.2.1 = none
  | _ => False
theorem pm_ret {l : Launch} {d : Nat} {M : pm_M} {h r h'} (hn : pm_nar M r) : pm_Ret M (pm_K l d h) (pm_G h r h') r h' := by
  match r, hn with
  | some (.int x), ⟨ty, h1, h2⟩ =>
    intro pc ls hd
    rintro ⟨p, l1, e, R, s, m, args, below, meth, c, A, D, κ, α⟩ hKX hO H locs rs hs
    obtain ⟨hx, hb, hr, hml, hown, hts, hKn, hA, hlk9, hN, hnm, hstt, htab⟩ := id hO
    obtain ⟨-, -, rfl⟩ := hKX
    obtain ⟨hP, hD, hS, hL⟩ := hs
    exact W.zret hx hb (hr.trans h1) h2 (fun t ht hW => ⟨rfl, by rw [ht]; exact hP, va_K.moved hW.alike hKn, hD, hS.F ht⟩) hS.2.2 hd hlk9
  | none, h1 =>
    intro pc ls hd
    rintro ⟨p, l1, e, R, s, m, args, below, meth, c, A, D, κ, α⟩ hKX hO H locs rs hs
    obtain ⟨hx, hb, hr, hml, hown, hts, hKn, hA, hlk9, hN, hnm, hstt, htab⟩ := id hO
    obtain ⟨-, -, rfl⟩ := hKX
    obtain ⟨hP, hD, hS, hL⟩ := hs
    exact W.vret hx hb (hr.trans h1) (fun t ht hW => ⟨rfl, by rw [ht]; exact hP, va_K.moved hW.alike hKn, hD, hS.F ht⟩) hS.2.2 hd hlk9
theorem pm_lg {vs : List Value} (h : ∀ v ∈ vs, v.category = 1) : (lg_sl vs).length = vs.length := by
  induction vs with
  | nil => rfl
  | cons v t ih =>
    have h1 : v.category = 1 := h v List.mem_cons_self
    have h2 := ih (fun w hw => h w (List.mem_cons_of_mem _ hw))
    simp [lg_sl, h1] at h2 ⊢
    omega
theorem pm_args {vs : List Value} (h : ∀ v ∈ vs, v.category = 1) : ∀ (i j : Nat) (v : Value), vs[j]? = some v → (i + j, v) ∈ lv_args i vs := by
  induction vs with
  | nil => intro i j v hv; simp at hv
  | cons w t ih =>
    intro i j v hv
    have h1 : w.category = 1 := h w List.mem_cons_self
    have h2 : ¬ w.category = 2 := by omega
    simp only [lv_args, h2, if_false]
    cases j with
    | zero => simp at hv; rw [hv]; exact List.mem_cons_self
    | succ j =>
      simp at hv
      have h3 := ih (fun w hw => h w (List.mem_cons_of_mem _ hw)) (i + 1) j v hv
      refine List.mem_cons_of_mem _ ?_
      rw [show i + (j + 1) = i + 1 + j by omega]
      exact h3
theorem pm_entry {α : Nat → Nat} {as : List Value} {nL k : Nat} (hc : ∀ v ∈ as, v.category = 1) (hl : as.length ≤ nL) : pm_L α (as.map some ++ List.replicate k none) nL (lg_sl (as.map (pm_v α)) ++ List.replicate (nL - (lg_sl (as.map (pm_v α))).length) Slot.unset).toArray := by
  have hc' : ∀ v ∈ as.map (pm_v α), v.category = 1 := by
    intro v hv
    obtain ⟨w, hw, rfl⟩ := List.mem_map.mp hv
    rw [pm_v_cat]; exact hc w hw
  have hle : (lg_sl (as.map (pm_v α))).length ≤ nL := by rw [pm_lg hc']; simpa using hl
  obtain ⟨h1, h2, h3⟩ := lv_entry (as.map (pm_v α)) hle
  refine ⟨h1, h2, fun i v hv => ?_⟩
  rw [List.getElem?_append] at hv
  by_cases hi : i < (as.map some).length
  · rw [if_pos hi, List.getElem?_map] at hv
    cases hx : as[i]? with
    | none => rw [hx] at hv; cases hv
    | some w =>
      rw [hx] at hv
      cases hv
      refine ⟨hc v (List.mem_of_getElem? hx), ?_⟩
      have h4 := pm_args hc' 0 i (pm_v α v) (by rw [List.getElem?_map, hx]; rfl)
      rw [Nat.zero_add] at h4
      exact h3 _ h4
  · rw [if_neg hi, List.getElem?_replicate] at hv
    split at hv <;> cases hv
theorem pm_sem {l : Launch} {d np : Nat} {M : pm_M} {as : List Value} {ls : List (Option Value)} {h : pm_H} {r : Option Value} {h' : pm_H} (hl : l.stackTraces = false) (ho : pm_Mo M np) (hn : pm_nar M r) (hls : as.map some ++ List.replicate (M.2.2.1 - as.length) none = ls) (hc1 : (as.all fun v => v.category == 1) = true) (hlen : as.length ≤ M.2.2.1)
    (body : ∀ (K : pm_X → Prop) (G : pm_X → State → Prop), (∀ X, K X → pm_Kd l d 0 0 X) → pm_Ret M K G r h' → pm_Go M K G 0 ls [] h 0 0) : pm_Sem l d M as h r h' := by
  intro D κ α sz
  have hc : ∀ v ∈ as, v.category = 1 := fun v hv => by simpa using List.all_eq_true.mp hc1 v hv
  obtain ⟨o1, o2, o3, o4, o5, o6, o7⟩ := ho
  refine Met.ofW (cc := M.2.1) (maxL := M.2.2.1) (ret := M.2.2.2.1) o2 rfl ?_
  intro p e s m args below meth c s₁ B hml hv
  obtain ⟨rfl, hsz, hP, hKn, hD0, hN⟩ := hv
  subst hsz
  have hts := atoms_spec (ws := pm_wsM M) B.pre
  have htab : c.exceptionTable.toList = tableOf M.2.2.2.2 := by
    obtain ⟨meth9, c9, h1, h2, -, -, -, -, h7, -⟩ := Cond.code_spec B.named (hts _ List.mem_cons_self)
    cases Option.some.inj (h1.symm.trans B.method)
    cases Option.some.inj (h2.symm.trans (Stand.of_body B).code)
    rw [o7, Array.isEmpty_iff.mp h7]
    rfl
  rw [lg_entry_eq]
  have key := body (pm_K l d h) (pm_G h r h') (fun X hX => by
    obtain ⟨p, l1, e, R, s, m, args, below, meth, c, A, D, κ, α⟩ := X
    obtain ⟨rfl, rfl, -⟩ := hX
    exact ⟨rfl, Nat.le_refl _, Nat.le_refl _, Nat.le_refl _, Nat.le_refl _⟩) (pm_ret hn)
  subst hls
  exact key (p, l, e, (headSpec (pm_wsM M) (pm_rm d 0 0)).room, s, m, _, below, meth, c, va_A (pm_w α κ h) s.heap.size, D, κ, α) ⟨rfl, rfl, rfl⟩
    ⟨B.exec, B.bytes, B.returns, hml, findClass_of_methodNamed B.named, fun w hw => hts w (List.mem_cons_of_mem _ hw), hKn, fun q hq => Or.inr hq, B.notSynchronized, hN, (name_of_methodNamed B.named B.method).1, hl, htab⟩
    s.heap [] _ ⟨hP, hD0.self, va_S.rf, pm_entry hc hlen⟩
