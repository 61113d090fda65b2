/-! MEMORY: the class's cells and the law's two arrays. A cell has a number (its tag); its address is given by a map; what changes are numbers alone: ints by tag and place, longs by tag and place. -/
abbrev Mem : Type := (Nat → Nat → Int32) × (Nat → Nat → Int64)
abbrev WG : Type := va_G × (Nat → Nat) × (Nat → ClassId)
abbrev MK : Type := MethodName × ByteArray × Nat × Option FieldType
abbrev QM : Type := Option Value → Mem → Prop
def sI (μ : Mem) (t i : Nat) (x : Int32) : Mem := (fun a b => if a = t ∧ b = i then x else μ.1 a b, μ.2)
def sL (μ : Mem) (t i : Nat) (x : Int64) : Mem := (μ.1, fun a b => if a = t ∧ b = i then x else μ.2 a b)
def bI (μ : Mem) (t : Nat) (f : Nat → Int32) : Mem := (fun a => if a = t then f else μ.1 a, μ.2)
def bL (μ : Mem) (t : Nat) (f : Nat → Int64) : Mem := (μ.1, fun a => if a = t then f else μ.2 a)
/-- the shape of each cell: an array (kind, length) or an object (class, its slots: a ref names a tag) -/
def shp (t : Nat) : (Nat × Nat) ⊕ (Nat × List Value) :=
  if t < 75 then
    if t < 7 then
      match t with
      | 0 => .inr (5, [.ref 1, .ref 2, .ref 3, .ref 4, .ref 5])
      | 1 => .inl (3, 8)
      | 2 => .inl (4, 6)
      | 3 => .inr (1, [.ref 39, .ref 6])
      | 4 => .inr (4, [.int 0, .int 0, .int 0, .int 0, .int 0, .int 0, .int 0])
      | 5 => .inr (0, [.long 0, .long 0, .long 0, .int 0, .int 0, .int 0, .int 0, .int 0, .int 0, .int 0])
      | _ => .inl (0, 10)
    else if t < 43 then
      match (t - 7) % 4 with
      | 0 => .inr (3, [.int 0, .int 0, .int 0, .ref (t + 1), .ref (t + 2), .ref (t + 3)])
      | 1 => .inl (1, 64)
      | 2 => .inl (1, 64)
      | _ => .inl (0, 64)
    else if t < 73 then
      match (t - 43) % 5 with
      | 0 => .inr (2, [.int 0, .ref (t + 1), .ref (t + 2), .ref (t + 3), .ref (t + 4)])
      | 1 => .inl (2, 64)
      | 2 => .inl (2, 64)
      | 3 => .inl (1, 64)
      | _ => .inl (2, 64)
    else .inl (2, 64)
  else .inl (9, 0)
/-- what the arrays of references hold -/
def arf (t j : Nat) : Nat := if t = 1 then 7 + 4 * j else 43 + 5 * j
def slotV (G : WG) (μ : Mem) (t j : Nat) (v : Value) : Value := match v with
  | .int _ => .int (μ.1 t j)
  | .long _ => .long (μ.2 t j)
  | .ref u => .ref (G.2.1 u)
  | w => w
def fsOf (G : WG) (μ : Mem) (t : Nat) (sl : List Value) : List Value := sl.mapIdx (fun j v => slotV G μ t j v)
def arOf (G : WG) (μ : Mem) (t k n : Nat) : vp_A := (n, if k < 2 then .inl (μ.1 t) else if k = 2 then .inr (.inl (μ.2 t)) else .inr (.inr (.inr (.inr (fun j => some (G.2.1 (arf t j)))))))
def cellOf (G : WG) (μ : Mem) (t : Nat) : va_E := match shp t with
  | .inl q => .inl (G.2.2 q.1, arOf G μ t q.1 q.2)
  | .inr q => .inr (q.1, fsOf G μ t q.2)
def wsOf (G : WG) (μ : Mem) : va_W := (List.range 75).map (fun t => (G.2.1 t, cellOf G μ t))
def wTys (G : WG) : List (ClassId × FieldType) := [(G.2.2 0, .boolean), (G.2.2 1, .int), (G.2.2 2, .long), (G.2.2 3, .object RX3), (G.2.2 4, .object RX2)]
theorem shp_lt_l {t k n : Nat} (h : shp t = .inl (k, n)) (hk : k < 9) : t < 75 := by
  by_cases ht : t < 75
  · exact ht
  · unfold shp at h
    rw [if_neg ht] at h
    cases h
    omega
theorem shp_lt_r {t : Nat} {x : Nat × List Value} (h : shp t = .inr x) : t < 75 := by
  by_cases ht : t < 75
  · exact ht
  · unfold shp at h
    rw [if_neg ht] at h
    cases h
theorem wsOf_get {G : WG} {μ : Mem} {t : Nat} (ht : t < 75) : (wsOf G μ)[t]? = some (G.2.1 t, cellOf G μ t) := by
  simp [wsOf, List.getElem?_map, List.getElem?_range ht]
theorem wsOf_len {G : WG} {μ : Mem} : (wsOf G μ).length = 75 := by simp [wsOf]
theorem cellOf_congr {G : WG} {μ μ' : Mem} {t : Nat} (h1 : μ.1 t = μ'.1 t) (h2 : μ.2 t = μ'.2 t) : cellOf G μ t = cellOf G μ' t := by
  simp only [cellOf, fsOf, arOf, slotV, h1, h2]
theorem wsOf_set {G : WG} {μ μ' : Mem} {t : Nat} {c : va_E} (ht : t < 75) (h1 : ∀ q, q ≠ t → μ'.1 q = μ.1 q) (h2 : ∀ q, q ≠ t → μ'.2 q = μ.2 q) (hc : cellOf G μ' t = c) : (wsOf G μ).set t (G.2.1 t, c) = wsOf G μ' := by
  apply List.ext_getElem?
  intro i
  by_cases hi : i = t
  · subst hi
    rw [List.getElem?_set_self (by rw [wsOf_len]; exact ht), wsOf_get ht, hc]
  · rw [List.getElem?_set_ne (Ne.symm hi)]
    by_cases h8 : i < 75
    · rw [wsOf_get h8, wsOf_get h8, cellOf_congr (h1 i hi) (h2 i hi)]
    · rw [List.getElem?_eq_none (by rw [wsOf_len]; omega), List.getElem?_eq_none (by rw [wsOf_len]; omega)]
theorem cellOf_r {G : WG} {μ : Mem} {t ci : Nat} {sl : List Value} (h : shp t = .inr (ci, sl)) : cellOf G μ t = .inr (ci, fsOf G μ t sl) := by
  simp only [cellOf, h]
theorem cellOf_l {G : WG} {μ : Mem} {t k n : Nat} (h : shp t = .inl (k, n)) : cellOf G μ t = .inl (G.2.2 k, arOf G μ t k n) := by
  simp only [cellOf, h]
theorem ws_r {G : WG} {μ : Mem} {t ci : Nat} {sl : List Value} (h : shp t = .inr (ci, sl)) : (wsOf G μ)[t]? = some (G.2.1 t, .inr (ci, fsOf G μ t sl)) := by
  rw [wsOf_get (shp_lt_r h), cellOf_r h]
theorem ws_l {G : WG} {μ : Mem} {t k n : Nat} (h : shp t = .inl (k, n)) (hk : k < 9) : (wsOf G μ)[t]? = some (G.2.1 t, .inl (G.2.2 k, arOf G μ t k n)) := by
  rw [wsOf_get (shp_lt_l h hk), cellOf_l h]
theorem fsOf_get {G : WG} {μ : Mem} {t j : Nat} {sl : List Value} {v : Value} (h : sl[j]? = some v) : (fsOf G μ t sl)[j]? = some (slotV G μ t j v) := by
  rw [fsOf, List.getElem?_mapIdx, h]
  rfl
theorem fsOf_len {G : WG} {μ : Mem} {t : Nat} {sl : List Value} : (fsOf G μ t sl).length = sl.length := by simp [fsOf]
theorem sI_off {μ : Mem} {t i q : Nat} {x : Int32} (h : q ≠ t) : (sI μ t i x).1 q = μ.1 q := by
  funext b
  simp [sI, h]
theorem sL_off {μ : Mem} {t i q : Nat} {x : Int64} (h : q ≠ t) : (sL μ t i x).2 q = μ.2 q := by
  funext b
  simp [sL, h]
theorem fsOf_setI {G : WG} {μ : Mem} {t j : Nat} {sl : List Value} {x z : Int32} (h : sl[j]? = some (.int z)) : fsOf G (sI μ t j x) t sl = (fsOf G μ t sl).set j (.int x) := by
  apply List.ext_getElem?
  intro i
  by_cases hi : i = j
  · subst hi
    have hl : i < sl.length := (List.getElem?_eq_some_iff.mp h).1
    rw [List.getElem?_set_self (by rw [fsOf_len]; exact hl), fsOf_get h]
    simp [slotV, sI]
  · rw [List.getElem?_set_ne (Ne.symm hi), fsOf, fsOf, List.getElem?_mapIdx, List.getElem?_mapIdx]
    congr 1
    funext v
    cases v <;> simp [slotV, sI, hi]
theorem fsOf_setL {G : WG} {μ : Mem} {t j : Nat} {sl : List Value} {x z : Int64} (h : sl[j]? = some (.long z)) : fsOf G (sL μ t j x) t sl = (fsOf G μ t sl).set j (.long x) := by
  apply List.ext_getElem?
  intro i
  by_cases hi : i = j
  · subst hi
    have hl : i < sl.length := (List.getElem?_eq_some_iff.mp h).1
    rw [List.getElem?_set_self (by rw [fsOf_len]; exact hl), fsOf_get h]
    simp [slotV, sL]
  · rw [List.getElem?_set_ne (Ne.symm hi), fsOf, fsOf, List.getElem?_mapIdx, List.getElem?_mapIdx]
    congr 1
    funext v
    cases v <;> simp [slotV, sL, hi]
theorem ws_setI {G : WG} {μ : Mem} {t ci j : Nat} {sl : List Value} {x z : Int32} (h : shp t = .inr (ci, sl)) (hj : sl[j]? = some (.int z)) : (wsOf G μ).set t (G.2.1 t, .inr (ci, (fsOf G μ t sl).set j (.int x))) = wsOf G (sI μ t j x) :=
  wsOf_set (shp_lt_r h) (fun _ hq => sI_off hq) (fun _ _ => rfl) (by rw [cellOf_r h, fsOf_setI hj])
theorem ws_setL {G : WG} {μ : Mem} {t ci j : Nat} {sl : List Value} {x z : Int64} (h : shp t = .inr (ci, sl)) (hj : sl[j]? = some (.long z)) : (wsOf G μ).set t (G.2.1 t, .inr (ci, (fsOf G μ t sl).set j (.long x))) = wsOf G (sL μ t j x) :=
  wsOf_set (shp_lt_r h) (fun _ _ => rfl) (fun _ hq => sL_off hq) (by rw [cellOf_r h, fsOf_setL hj])
theorem bI_off {μ : Mem} {t q : Nat} {f : Nat → Int32} (h : q ≠ t) : (bI μ t f).1 q = μ.1 q := by simp [bI, h]
theorem bL_off {μ : Mem} {t q : Nat} {f : Nat → Int64} (h : q ≠ t) : (bL μ t f).2 q = μ.2 q := by simp [bL, h]
theorem bI_at {μ : Mem} {t : Nat} {f : Nat → Int32} : (bI μ t f).1 t = f := by simp [bI]
theorem bL_at {μ : Mem} {t : Nat} {f : Nat → Int64} : (bL μ t f).2 t = f := by simp [bL]
theorem sI_bI {μ : Mem} {t i : Nat} {x : Int32} : bI μ t (upd (μ.1 t) i x) = sI μ t i x := by
  unfold bI sI
  congr 1
  funext a b
  by_cases ha : a = t
  · subst ha
    by_cases hb : b = i <;> simp [upd, hb]
  · simp [ha]
theorem sL_bL {μ : Mem} {t i : Nat} {x : Int64} : bL μ t (vp_updL (μ.2 t) i x) = sL μ t i x := by
  unfold bL sL
  congr 1
  funext a b
  by_cases ha : a = t
  · subst ha
    by_cases hb : b = i <;> simp [vp_updL, hb]
  · simp [ha]
theorem ws_bI {G : WG} {μ : Mem} {t k n : Nat} {f : Nat → Int32} (h : shp t = .inl (k, n)) (hk : k < 2) : (wsOf G μ).set t (G.2.1 t, .inl (G.2.2 k, n, .inl f)) = wsOf G (bI μ t f) :=
  wsOf_set (shp_lt_l h (by omega)) (fun _ hq => bI_off hq) (fun _ _ => rfl) (by rw [cellOf_l h, arOf, if_pos hk, bI_at])
theorem ws_bL {G : WG} {μ : Mem} {t n : Nat} {f : Nat → Int64} (h : shp t = .inl (2, n)) : (wsOf G μ).set t (G.2.1 t, .inl (G.2.2 2, n, .inr (.inl f))) = wsOf G (bL μ t f) :=
  wsOf_set (shp_lt_l h (by omega)) (fun _ _ => rfl) (fun _ hq => bL_off hq) (by rw [cellOf_l h, arOf, if_neg (by omega), if_pos rfl, bL_at])
theorem ws_aI {G : WG} {μ : Mem} {t k n : Nat} (h : shp t = .inl (k, n)) (hk : k < 2) : (wsOf G μ)[t]? = some (G.2.1 t, .inl (G.2.2 k, n, .inl (μ.1 t))) := by
  rw [ws_l h (by omega), arOf, if_pos hk]
theorem ws_aL {G : WG} {μ : Mem} {t n : Nat} (h : shp t = .inl (2, n)) : (wsOf G μ)[t]? = some (G.2.1 t, .inl (G.2.2 2, n, .inr (.inl (μ.2 t)))) := by
  rw [ws_l h (by omega), arOf, if_neg (by omega), if_pos rfl]
theorem ws_aR {G : WG} {μ : Mem} {t k n : Nat} (h : shp t = .inl (k, n)) (hk : 2 < k) (hk9 : k < 9) : (wsOf G μ)[t]? = some (G.2.1 t, .inl (G.2.2 k, n, .inr (.inr (.inr (.inr (fun j => some (G.2.1 (arf t j)))))))) := by
  rw [ws_l h hk9, arOf, if_neg (by omega), if_neg (by omega)]
def wA (G : WG) (sz : Nat) : Nat → Prop := fun q => (∃ t, t < 75 ∧ q = G.2.1 t) ∨ sz ≤ q
def wD (G : WG) : Prop := ∀ i j : Nat, i < 75 → j < 75 → G.2.1 i = G.2.1 j → i = j
def wP (G : WG) (μ : Mem) (H : Heap) : Prop := va_P G.1 vwCl (wsOf G μ) H
theorem wsOf_at {G : WG} {μ : Mem} {k : Nat} {q : Nat × va_E} (h : (wsOf G μ)[k]? = some q) : k < 75 ∧ q.1 = G.2.1 k := by
  have hl : k < 75 := by
    have := (List.getElem?_eq_some_iff.mp h).1
    rw [wsOf_len] at this
    exact this
  rw [wsOf_get hl] at h
  cases h
  exact ⟨hl, rfl⟩
theorem wD.D {G : WG} {μ : Mem} {sz : Nat} (h : wD G) : va_D (wA G sz) (wsOf G μ) := by
  refine ⟨fun i j p q hi hj hpq => ?_, fun k q hk => ?_⟩
  · obtain ⟨a1, a2⟩ := wsOf_at hi
    obtain ⟨b1, b2⟩ := wsOf_at hj
    exact h i j a1 b1 (by rw [← a2, ← b2]; exact hpq)
  · obtain ⟨a1, a2⟩ := wsOf_at hk
    exact Or.inl ⟨k, a1, a2⟩
theorem wA_mono {G : WG} {a b : Nat} (h : a ≤ b) {q : Nat} (hq : wA G b q) : wA G a q := by
  rcases hq with h1 | h1
  · exact Or.inl h1
  · exact Or.inr (Nat.le_trans h h1)
def nW (U : State) : Prop := va_Nw (.methodLinkNest RX2 79 yX5_isWithin RX5) U
def wK (G : WG) (U : State) : Prop := va_K G.1 vwCl (wTys G) U ∧ nW U
theorem wK.warm {G : WG} {s U : State} (hW : s.WarmedH U.vm) (h : wK G s) : wK G U := ⟨va_K.moved hW.alike h.1, va_Nw.warmM hW h.2⟩
theorem wK.calling {G : WG} {U : State} {g : JFrame} {mk : MethodId} {a : Array Value} (h : wK G U) : wK G (U.calling g mk a) := ⟨va_K.moved (u := U) (U := U.calling g mk a) (Vm.Alike.refl U.vm) h.1, va_Nw.same rfl rfl h.2⟩
/-- the tables' words, those that stay -/
def wT : List Cond := lw_tbl.filter goodWord
abbrev wsM (k : MK) : List Cond := .code k.1 k.2.1 k.2.2.1 k.2.2.2 :: wT
abbrev rmD (d : Nat) : Room := { frames := d, cells := 0, slots := 0, locals := 40 * d }
def trV (G : WG) (v : Value) : Value := match v with
  | .ref t => .ref (G.2.1 t)
  | w => w
theorem trV_cat (G : WG) (v : Value) : (trV G v).category = v.category := by cases v <;> rfl
def wQ (G : WG) (Q : QM) (sz : Nat) : Array Value → State → Outcome → State → Prop := fun _ st oc t => (∃ (r : Option Value) (μ' : Mem), oc = .returned (r.map (trV G)) ∧ Q r μ' ∧ wP G μ' t.heap) ∧ va_F (wA G sz) st t
/-- an answer is of the method's own type -/
def rOk (rt : Option FieldType) (r : Option Value) : Prop := match rt with
  | some .int => ∃ x, r = some (.int x)
  | some .long => ∃ x, r = some (.long x)
  | _ => True
def wR (rt : Option FieldType) (Q : QM) : QM := fun r μ => Q r μ ∧ rOk rt r
/-- method k, called with args in memory μ, with d calls' room: it returns, and Q holds of its answer and of the memory behind it -/
def MW (k : MK) (d : Nat) (as : List Value) (μ : Mem) (Q : QM) : Prop := ∀ (l : Launch) (G : WG) (sz : Nat), wD G → Met l k.1 (wsM k) (rmD d) (va_Pc (as.map (trV G)) (fun U => U.heap.size = sz ∧ wP G μ U.heap ∧ wK G U)) (wQ G (wR k.2.2.2 Q) sz) 0 0 (wA G sz)
def Cx (k : MK) (G : WG) (p : Program) (s : State) (m : MethodId) (args : Array Value) (meth : Method) (c : Code) : Prop := p.tables.exec = Jvm.exec ∧ c.code = k.2.1 ∧ meth.sig.returnType = k.2.2.2 ∧ (∀ w ∈ wsM k, w.before args s = true) ∧ s.vm.findClass k.1.cls = some m.cls ∧ meth.locks = false ∧ c.maxLocals = k.2.2.1 ∧ wD G ∧ wK G s
def lvh (G : WG) (ls : Array Slot) (n : Nat) (lv : List (Option Value)) : Prop := ls.size = n ∧ lv_wf ls ∧ ∀ (i : Nat) (v : Value), lv[i]? = some (some v) → ls[i]? = some (.val (trV G v))
/-- inside method k, at pc, with locals lv and stack st in memory μ: it goes on to its end, with Q -/
def WA (k : MK) (d : Nat) (Q : QM) (pc : Nat) (lv : List (Option Value)) (st : List Value) (μ : Mem) : Prop :=
  ∀ (G : WG) (p : Program) (l : Launch) (e : Env) (s : State) (m : MethodId) (args : Array Value) (below : List Frame) (meth : Method) (c : Code) (H : Heap) (locs : List Loc) (ls : Array Slot), Cx k G p s m args meth c → wP G μ H → va_S (wA G s.heap.size) s.heap H locs → lvh G ls k.2.2.1 lv →
    W p l e (rmD d) s m args below meth c H locs 0 0 (MQ below (wQ G (wR k.2.2.2 Q) s.heap.size) args s 0 0 (wA G s.heap.size)) (F0 m pc ls (st.map (trV G)))
/-! locals -/
def lvA : List Value → List (Option Value)
  | [] => []
  | v :: vs => match v with
    | .long x => some (.long x) :: none :: lvA vs
    | .double x => some (.double x) :: none :: lvA vs
    | w => some w :: lvA vs
def killP (lv : List (Option Value)) (i : Nat) : List (Option Value) := match i with
  | 0 => lv
  | j + 1 => match lv[j]? with
    | some (some (.long _)) => lv.set j none
    | some (some (.double _)) => lv.set j none
    | _ => lv
def stV (lv : List (Option Value)) (i : Nat) (v : Value) : List (Option Value) := (killP lv i).set i (some v)
def stW (lv : List (Option Value)) (i : Nat) (v : Value) : List (Option Value) := ((killP lv i).set i (some v)).set (i + 1) none
def aslF (G : WG) (lv : List (Option Value)) : List (Nat × Value) := (List.range lv.length).filterMap (fun j => match lv[j]? with
  | some (some v) => some (j, trV G v)
  | _ => none)
theorem aslF_mem {G : WG} {lv : List (Option Value)} {j : Nat} {v : Value} (h : lv[j]? = some (some v)) : (j, trV G v) ∈ aslF G lv := by
  have hl : j < lv.length := (List.getElem?_eq_some_iff.mp h).1
  refine List.mem_filterMap.mpr ⟨j, List.mem_range.mpr hl, ?_⟩
  simp only [h]
theorem aslF_of {G : WG} {lv : List (Option Value)} {q : Nat × Value} (h : q ∈ aslF G lv) : ∃ v, lv[q.1]? = some (some v) ∧ q.2 = trV G v := by
  obtain ⟨j, -, h2⟩ := List.mem_filterMap.mp h
  cases hj : lv[j]? with
  | none => simp [hj] at h2
  | some o =>
    cases o with
    | none => simp [hj] at h2
    | some v =>
      simp only [hj, Option.some.injEq] at h2
      subst h2
      exact ⟨v, hj, rfl⟩
theorem lvh.has {G : WG} {ls : Array Slot} {n : Nat} {lv : List (Option Value)} (h : lvh G ls n lv) : lv_has ls n (aslF G lv) := by
  refine ⟨h.1, h.2.1, fun q hq => ?_⟩
  obtain ⟨v, h1, h2⟩ := aslF_of hq
  rw [h2]
  exact h.2.2 _ _ h1
theorem lvh.at {G : WG} {ls : Array Slot} {n : Nat} {lv : List (Option Value)} (h : lvh G ls n lv) {i : Nat} {v : Value} (hi : lv[i]? = some (some v)) : ls[i]? = some (.val (trV G v)) := h.2.2 i v hi
theorem killP_get {lv : List (Option Value)} {i j : Nat} {w : Value} (h : (killP lv i)[j]? = some (some w)) : lv[j]? = some (some w) ∧ ¬ (j + 1 = i ∧ w.category = 2) := by
  cases i with
  | zero => exact ⟨h, by omega⟩
  | succ i =>
    unfold killP at h
    dsimp only at h
    have key : ∀ (o : Option Value), lv[i]? = some o → (lv.set i none)[j]? = some (some w) → lv[j]? = some (some w) ∧ ¬ (j + 1 = i + 1 ∧ w.category = 2) := by
      intro o ho hs
      by_cases hij : j = i
      · subst hij
        rw [List.getElem?_set_self (List.getElem?_eq_some_iff.mp ho).1] at hs
        cases hs
      · rw [List.getElem?_set_ne (Ne.symm hij)] at hs
        exact ⟨hs, by omega⟩
    split at h
    · rename_i x hx
      exact key _ hx h
    · rename_i x hx
      exact key _ hx h
    · rename_i n1 n2
      refine ⟨h, fun hh => ?_⟩
      obtain ⟨h1, h2⟩ := hh
      have hji : j = i := by omega
      subst hji
      cases w with
      | long x => exact n1 x h
      | double x => exact n2 x h
      | _ => simp [Value.category] at h2
theorem lvh_st {G : WG} {ls' : Array Slot} {n i : Nat} {lv : List (Option Value)} {v : Value} (h : lv_has ls' n ((i, trV G v) :: (aslF G lv).filter (fun q => !(q.1 == i) && !(q.1 + 1 == i && q.2.category == 2)))) : lvh G ls' n (stV lv i v) := by
  refine ⟨h.1, h.2.1, fun j w hj => ?_⟩
  unfold stV at hj
  by_cases hij : j = i
  · subst hij
    have hl : j < (killP lv j).length := by
      have := (List.getElem?_eq_some_iff.mp hj).1
      simpa using this
    rw [List.getElem?_set_self hl] at hj
    cases hj
    exact h.2.2 _ List.mem_cons_self
  · rw [List.getElem?_set_ne (Ne.symm hij)] at hj
    obtain ⟨h1, h2⟩ := killP_get hj
    refine h.2.2 (j, trV G w) (List.mem_cons_of_mem _ (List.mem_filter.mpr ⟨aslF_mem h1, ?_⟩))
    simp only [trV_cat]
    by_cases hc : j + 1 = i
    · have : ¬ w.category = 2 := fun q => h2 ⟨hc, q⟩
      simp [hij, this]
    · simp [hij, hc]
theorem lvh_sw {G : WG} {ls' : Array Slot} {n i : Nat} {lv : List (Option Value)} {v : Value} (h : lv_has ls' n ((i, trV G v) :: (aslF G lv).filter (fun q => !(q.1 == i) && (!(q.1 == i + 1) && !(q.1 + 1 == i && q.2.category == 2))))) : lvh G ls' n (stW lv i v) := by
  refine ⟨h.1, h.2.1, fun j w hj => ?_⟩
  unfold stW at hj
  by_cases hi1 : j = i + 1
  · subst hi1
    have hl : i + 1 < ((killP lv i).set i (some v)).length := by
      have := (List.getElem?_eq_some_iff.mp hj).1
      simpa using this
    rw [List.getElem?_set_self hl] at hj
    cases hj
  · rw [List.getElem?_set_ne (Ne.symm hi1)] at hj
    by_cases hij : j = i
    · subst hij
      have hl : j < (killP lv j).length := by
        have := (List.getElem?_eq_some_iff.mp hj).1
        simpa using this
      rw [List.getElem?_set_self hl] at hj
      cases hj
      exact h.2.2 _ List.mem_cons_self
    · rw [List.getElem?_set_ne (Ne.symm hij)] at hj
      obtain ⟨h1, h2⟩ := killP_get hj
      refine h.2.2 (j, trV G w) (List.mem_cons_of_mem _ (List.mem_filter.mpr ⟨aslF_mem h1, ?_⟩))
      simp only [trV_cat]
      by_cases hc : j + 1 = i
      · have : ¬ w.category = 2 := fun q => h2 ⟨hc, q⟩
        simp [hij, hi1, this]
      · simp [hij, hi1, hc]
theorem lvA_args {G : WG} : ∀ (vs : List Value) (o i : Nat) (v : Value), (lvA vs)[i]? = some (some v) → (o + i, trV G v) ∈ lv_args o (vs.map (trV G))
  | [], o, i, v, h => by simp [lvA] at h
  | a :: vs, o, i, v, h => by
    have ih := lvA_args (G := G) vs
    have two : ∀ (w : Value), w.category = 2 → lvA (a :: vs) = some a :: none :: lvA vs → w = a → (o + i, trV G v) ∈ lv_args o ((a :: vs).map (trV G)) := by
      intro w hw hA hwa
      subst hwa
      rw [hA] at h
      rw [List.map_cons, lv_args, if_pos (by rw [trV_cat]; exact hw)]
      match i, h with
      | 0, h => cases h; exact List.mem_cons_self
      | 1, h => cases h
      | i + 2, h =>
        have := ih (o + 2) i v (by simpa using h)
        rw [show o + (i + 2) = o + 2 + i by omega]
        exact List.mem_cons_of_mem _ this
    have one : ¬ a.category = 2 → lvA (a :: vs) = some a :: lvA vs → (o + i, trV G v) ∈ lv_args o ((a :: vs).map (trV G)) := by
      intro hw hA
      rw [hA] at h
      rw [List.map_cons, lv_args, if_neg (by rw [trV_cat]; exact hw)]
      match i, h with
      | 0, h => cases h; exact List.mem_cons_self
      | i + 1, h =>
        have := ih (o + 1) i v (by simpa using h)
        rw [show o + (i + 1) = o + 1 + i by omega]
        exact List.mem_cons_of_mem _ this
    cases a with
    | long x => exact two _ rfl rfl rfl
    | double x => exact two _ rfl rfl rfl
    | _ => exact one (by simp [Value.category]) rfl
theorem lvA_len (G : WG) : ∀ (vs : List Value), (lg_sl (vs.map (trV G))).length = (lvA vs).length
  | [] => rfl
  | a :: vs => by
    have ih := lvA_len G vs
    have e : lg_sl ((a :: vs).map (trV G)) = (if (trV G a).category = 2 then [.val (trV G a), .second] else [.val (trV G a)]) ++ lg_sl (vs.map (trV G)) := rfl
    rw [e, List.length_append, ih]
    cases a <;> simp [trV, Value.category, lvA] <;> omega
theorem lvh_entry {G : WG} {vs : List Value} {n : Nat} {lv : List (Option Value)} (hlv : lv = lvA vs ++ List.replicate (n - (lvA vs).length) none) (hn : (lvA vs).length ≤ n) : lvh G ((lg_sl (vs.map (trV G)) ++ List.replicate (n - (lg_sl (vs.map (trV G))).length) Slot.unset).toArray) n lv := by
  have h := lv_entry (vs.map (trV G)) (n := n) (by rw [lvA_len]; exact hn)
  refine ⟨h.1, h.2.1, fun i v hi => ?_⟩
  subst hlv
  by_cases hl : i < (lvA vs).length
  · rw [List.getElem?_append_left hl] at hi
    have := lvA_args (G := G) vs 0 i v hi
    rw [Nat.zero_add] at this
    exact h.2.2 _ this
  · rw [List.getElem?_append_right (by omega), List.getElem?_replicate] at hi
    split at hi <;> cases hi
theorem MW_of {k : MK} {d : Nat} {as : List Value} {μ : Mem} {Q : QM} (hy : plainName k.1.cls = true) (lv : List (Option Value)) (hlv : lv = lvA as ++ List.replicate (k.2.2.1 - (lvA as).length) none) (hn : (lvA as).length ≤ k.2.2.1) (h : WA k d Q 0 lv [] μ) : MW k d as μ Q := by
  intro l G sz hD
  refine Met.ofW (cc := k.2.1) (maxL := k.2.2.1) (ret := k.2.2.2) hy rfl ?_
  intro p e s m args below meth c s₁ B hml hv
  obtain ⟨rfl, hsz, hP, hK⟩ := hv
  subst hsz
  rw [lg_entry_eq]
  exact h G p l e s m _ below meth c s.heap [] _ ⟨B.exec, B.bytes, B.returns, atoms_spec (ws := wsM k) B.pre, findClass_of_methodNamed B.named, B.notSynchronized, hml, hD, hK⟩ hP va_S.rf (lvh_entry hlv hn)
theorem WA.mask {k : MK} {d : Nat} {Q : QM} {pc : Nat} {lv : List (Option Value)} {st : List Value} {μ : Mem} (lv' : List (Option Value)) (h : ∀ (i : Nat) (v : Value), lv'[i]? = some (some v) → lv[i]? = some (some v)) (kk : WA k d Q pc lv' st μ) : WA k d Q pc lv st μ :=
  fun G p l e s m args below meth c H locs ls C hP hS hl => kk G p l e s m args below meth c H locs ls C hP hS ⟨hl.1, hl.2.1, fun i v hi => hl.2.2 i v (h i v hi)⟩
/-- some locals forgotten -/
def frg : List (Option Value) → List Bool → List (Option Value)
  | o :: l, b :: bs => (if b then o else none) :: frg l bs
  | _, _ => []
theorem frg_get : ∀ (lv : List (Option Value)) (bs : List Bool) (i : Nat) (v : Value), (frg lv bs)[i]? = some (some v) → lv[i]? = some (some v)
  | [], bs, i, v, h => by simp [frg] at h
  | o :: l, [], i, v, h => by simp [frg] at h
  | o :: l, b :: bs, i, v, h => by
    match i with
    | 0 =>
      cases b
      · simp [frg] at h
      · simpa [frg] using h
    | i + 1 =>
      have := frg_get l bs i v (by simpa [frg] using h)
      simpa using this
theorem WA.frg {k : MK} {d : Nat} {Q : QM} {pc : Nat} {lv : List (Option Value)} {st : List Value} {μ : Mem} (bs : List Bool) (kk : WA k d Q pc (frg lv bs) st μ) : WA k d Q pc lv st μ := WA.mask _ (frg_get lv bs) kk
