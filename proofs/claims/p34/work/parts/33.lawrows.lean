/-! THE CLAIM OUT OF ONE WALK OF THE LAW'S BODY. Your part is whole_start (and what it stands on); all else here is the same for every law, but numbers. -/
def R_law : String := "WaveBuoysLaw"
def lw_P (b : Addr) (xs : List Int32) (args : Array Value) (s : State) : Prop := args = #[.ref b] ∧ s.IntsAt b xs ∧ xs.length ≤ 260 ∧ (Jvm.Cond.and given_1 narrow_1).before args s = true
def lw_Q (_ : Array Value) (s : State) (o : Outcome) (t : State) : Prop := o = .returned (some (.int 1)) ∧ Framed s o t [] 600000 7302250
def lw_Z (below : List Frame) (a : Array Value) (s : State) : State → Prop := fun t => ∃ o, t.status = .running ∧ Ended t below o ∧ lw_Q a s o t
/-- the law's own end, with 1 on the stack, nothing written that was there before, its room as the claim has it -/
theorem lw_ret {p : Program} {l : Launch} {e : Env} {s : State} {m : MethodId} {below : List Frame} {meth : Method} {c : Code} {b : Nat} (hx : p.tables.exec = Jvm.exec) (hb : c.code = code) (hr : meth.sig.returnType = ret) (hlocks : meth.locks = false) {pc : Nat} {H : Heap} {ls : Array Slot} (hdg : decode code pc = .ok (.ireturn, 1)) : W p l e room_1 s m #[Value.ref b] below meth c H [] 600000 7302250 (lw_Z below #[Value.ref b] s) (F0 m pc ls [.int 1]) := by
  intro T hT X
  obtain ⟨fs, hret, hrun, hended, hW, hframe⟩ := X.leave (v := some (.int 1)) (hlocks := hlocks) (fun h => by rw [hr] at h; cases h)
  have hmeth' : T.vm.method? m = some meth := X.method'
  refine ⟨T.setFrames fs, ?_, .returned (some (.int 1)), hrun, hended, rfl, ⟨_, rfl⟩, hW, hframe⟩
  jvm_step X.here [X.here.top, hx, hb, hdg, hmeth', hr, ret, narrow_b1]
  (try refine ⟨rfl, ?_⟩); (try refine ⟨rfl, ?_⟩)
  first | (intro acts; rw [hret _ acts rfl rfl rfl]) | rw [hret _ _ rfl rfl rfl]
  exact Steps.refl _
/-- what holds at the law's entry: the machine, the code, the tables' words (any of lw_tbl by 'hts w (by decide +kernel)'), the script of L ints xs at the cell b, what the Statement gives of the start (any of its parts by flat_of_before) -/
def lw_At (p : Program) (s : State) (m : MethodId) (meth : Method) (c : Code) (b L : Nat) (xs : Nat → Int32) : Prop :=
  p.tables.exec = Jvm.exec ∧ c.code = code ∧ meth.sig.returnType = ret ∧ c.maxLocals = 19 ∧ s.vm.findClass R_law = some m.cls ∧ (∀ w ∈ lw_tbl, w.before #[Value.ref b] s = true) ∧ va_X b L xs s s.heap ∧ b < s.heap.size ∧ meth.locks = false ∧ (Jvm.Cond.and given_1 narrow_1).before #[Value.ref b] s = true
theorem ntX2_79 : Cond.methodLinkNest RX2 79 yX5_isWithin RX5 ∈ lw_tbl := List.mem_of_getElem? (i := 201) (by decide +kernel)
theorem wT_tbl {w : Cond} (h : w ∈ wT) : w ∈ lw_tbl := (List.mem_filter.mp h).1
theorem zand31 (x : Int32) : (x &&& 2147483647).toInt = x.toInt % 2147483648 := by
  rw [← Int32.toInt_toBitVec, ← Int32.toInt_toBitVec x, Int32.toBitVec_and]
  have e1 : (x.toBitVec &&& Int32.toBitVec 2147483647).toNat = x.toBitVec.toNat % 2147483648 := by
    rw [BitVec.toNat_and]
    exact Nat.and_two_pow_sub_one_eq_mod x.toBitVec.toNat 31
  have h1 := x.toBitVec.isLt
  rw [BitVec.toInt_eq_toNat_cond, BitVec.toInt_eq_toNat_cond, e1]
  split <;> split <;> omega
theorem up_v (x : Int32) {q : Nat} (h0 : 0 < q) (hq : q < 2 ^ 31) : ∃ r, r < q ∧ (x &&& 2147483647) - (x &&& 2147483647) / nI q * nI q = nI r := by
  obtain ⟨a, ha, ea⟩ := nI_nn (x := x &&& 2147483647) (by rw [zand31]; omega)
  have h1 := Nat.mod_lt a h0
  have h2 := Nat.div_add_mod a q
  have h3 := Nat.div_mul_le_self a q
  refine ⟨a - a / q * q, ?_, ?_⟩
  · rw [Nat.mul_comm] at h2
    omega
  · rw [ea, pk_div ha h0 hq, pk_mul, pk_sub h3]
set_option maxHeartbeats 4000000 in
set_option maxRecDepth 100000 in
theorem c_cell (l : Launch) (b L j : Nat) (xs : Nat → Int32) (H0 : Heap) (hL : L < 2 ^ 30) (hj : j < 2 ^ 30) : Met l yL_cell (wsM kL_cell) (rmD 0) (va_Pc [.ref b, .int (nI j)] (fun U => U.heap = H0 ∧ b < H0.size ∧ va_X b L xs U H0)) (fun _ _ oc t => (∃ v : Int32, oc = .returned (some (.int v))) ∧ t.heap = H0) 0 0 (fun _ => False) := by
  refine Met.ofW (cc := cL_cell) (maxL := 2) (ret := some .int) (by decide) rfl ?_
  intro p e s m args below meth c s₁ B hml hv
  obtain ⟨rfl, rfl, hbl, hX⟩ := hv
  have hx := B.exec
  have hb := B.bytes
  have hr := B.returns
  have hts := atoms_spec (ws := wsM kL_cell) B.pre
  have hw : ∀ {w : Cond}, w ∈ wT → w.before _ s = true := fun h => hts _ (List.mem_cons_of_mem _ h)
  have hown : s.vm.findClass RL = some m.cls := findClass_of_methodNamed B.named
  have hlocks := B.notSynchronized
  have hS : va_S (fun _ => False) s.heap s.heap [] := va_S.rf
  have hl := lv_entry ([.ref b, .int (nI j)]) (n := 2) (Nat.le_of_ble_eq_true rfl)
  rw [lg_entry_eq]
  generalize (lg_sl ([.ref b, .int (nI j)]) ++ List.replicate (2 - (lg_sl ([.ref b, .int (nI j)])).length) Slot.unset).toArray = ls at hl ⊢
  have hl : lv_has ls 2 [(0, .ref b), (1, .int (nI j))] := hl
  refine lv_iload_n hx hb dL_cell_0 rfl (lv_at hl 1 rfl) ?_
  refine lv_aload_n hx hb dL_cell_1 rfl (lv_at hl 0 rfl) ?_
  refine va_slen hx hb hX hbl (fun h => h) hS dL_cell_2 ?_
  refine lv_icmp_ge (tgt := 12) hx hb dL_cell_3 (by decide) (fun hge => ?_) (fun hlt => ?_)
  · refine lv_ldc hx hb hown (hw lcL_7) dL_cell_12 ?_
    refine lv_iload_n hx hb dL_cell_14 rfl (lv_at hl 1 rfl) ?_
    refine lv_bipush (v := nI 9) hx hb dL_cell_15 (by decide) ?_
    refine lv_iadd hx hb dL_cell_17 ?_
    refine lv_imul hx hb dL_cell_18 ?_
    exact W.iret hx hb hr (fun t ht _ => ⟨⟨_, rfl⟩, ht⟩) (fun q h => absurd h List.not_mem_nil) dL_cell_19 hlocks
  · refine lv_aload_n hx hb dL_cell_6 rfl (lv_at hl 0 rfl) ?_
    refine lv_iload_n hx hb dL_cell_7 rfl (lv_at hl 1 rfl) ?_
    have hjL : j < L := by
      refine Nat.lt_of_not_le (fun q => hlt ?_)
      exact nI_le q (by omega)
    refine va_sld hx hb hX hbl (fun h => h) hS (vp_in_nI hjL (by omega)) dL_cell_8 ?_
    refine lv_goto (tgt := 19) hx hb dL_cell_9 (by decide) ?_
    exact W.iret hx hb hr (fun t ht _ => ⟨⟨_, rfl⟩, ht⟩) (fun q h => absurd h List.not_mem_nil) dL_cell_19 hlocks
set_option maxHeartbeats 4000000 in
set_option maxRecDepth 100000 in
theorem c_up (l : Launch) (x : Int32) (q : Nat) (H0 : Heap) (h0 : 0 < q) (hq : q < 2 ^ 31) : Met l yL_up (wsM kL_up) (rmD 0) (va_Pc [.int x, .int (nI q)] (fun U => U.heap = H0)) (fun _ _ oc t => (∃ r, r < q ∧ oc = .returned (some (.int (nI r)))) ∧ t.heap = H0) 0 0 (fun _ => False) := by
  refine Met.ofW (cc := cL_up) (maxL := 2) (ret := some .int) (by decide) rfl ?_
  intro p e s m args below meth c s₁ B hml hv
  obtain ⟨rfl, rfl⟩ := hv
  have hx := B.exec
  have hb := B.bytes
  have hr := B.returns
  have hts := atoms_spec (ws := wsM kL_up) B.pre
  have hw : ∀ {w : Cond}, w ∈ wT → w.before _ s = true := fun h => hts _ (List.mem_cons_of_mem _ h)
  have hown : s.vm.findClass RL = some m.cls := findClass_of_methodNamed B.named
  have hlocks := B.notSynchronized
  have hl := lv_entry ([.int x, .int (nI q)]) (n := 2) (Nat.le_of_ble_eq_true rfl)
  rw [lg_entry_eq]
  generalize (lg_sl ([.int x, .int (nI q)]) ++ List.replicate (2 - (lg_sl ([.int x, .int (nI q)])).length) Slot.unset).toArray = ls at hl ⊢
  have hl : lv_has ls 2 [(0, .int x), (1, .int (nI q))] := hl
  obtain ⟨r, hr1, hr2⟩ := up_v x h0 hq
  refine lv_iload_n hx hb dL_up_0 rfl (lv_at hl 0 rfl) ?_
  refine lv_ldc hx hb hown (hw lcL_8) dL_up_1 ?_
  refine lv_iand hx hb dL_up_3 ?_
  refine lv_iload_n hx hb dL_up_4 rfl (lv_at hl 1 rfl) ?_
  refine lv_irem hx hb dL_up_5 (nI_ne0 h0 hq) ?_
  rw [hr2]
  exact W.iret hx hb hr (fun t ht _ => ⟨⟨r, hr1, rfl⟩, ht⟩) (fun q h => absurd h List.not_mem_nil) dL_up_6 hlocks
section LAW
variable {p : Program} {l : Launch} {e : Env} {s : State} {m : MethodId} {below : List Frame} {meth : Method} {c : Code} {b L : Nat} {xs : Nat → Int32} {G : WG}
theorem good_S {own : String} {idx : Nat} {k' : MK} {n : Nat} (hlink : Cond.methodLink own idx k'.1 ∈ wT) (hk : lkS k' n) : GoodIn lw_tbl (va_wsS own idx k'.1 (wsM k')) := by
  obtain ⟨⟨h1, h2, h3, h4, h5⟩, h6⟩ := hk
  exact good_app (fun w hw => by
    simp only [List.mem_cons, List.not_mem_nil, or_false] at hw
    rcases hw with rfl | rfl | rfl <;> assumption) (fun w h => wT_tbl h) (by
    intro w hw
    rcases List.mem_cons.mp hw with rfl | hw
    · exact ⟨wT_tbl h2, wT_good h2⟩
    · exact ⟨wT_tbl hw, wT_good hw⟩)
theorem lmL_23' : Cond.methodLink RL 23 kL_cell.1 ∈ wT := lmL_23
theorem lmL_29' : Cond.methodLink RL 29 kL_up.1 ∈ wT := lmL_29
/-- a call that leaves the heap as it is -/
theorem w_still {y : MethodName} {H : Heap} {locs : List Loc} {cells slots : Nat} {Q : State → Prop} {pc : Nat} {ls : Array Slot} {st0 rest : List Value} {a : Array Value} {R : Option Value → Prop} {QQ : Array Value → State → Outcome → State → Prop}
    (hr : va_Run p l e room_1 s m #[Value.ref b] below meth c H locs cells slots 0 0 (F0 m pc ls st0) rest (QQ a) (fun _ => False)) (hQ : ∀ st v t, QQ a st (.returned v) t → R v ∧ t.heap = H)
    (kk : ∀ v, R v → W p l e room_1 s m #[Value.ref b] below meth c H locs cells slots Q (F0 m (pc + 3) ls (v.toList ++ rest))) : W p l e room_1 s m #[Value.ref b] below meth c H locs cells slots Q (F0 m pc ls st0) := by
  intro T hT X
  obtain ⟨v, st₀, t, T', LL, h0, X', hL, e1, e2, hq, st⟩ := hr T hT X
  obtain ⟨q1, q2⟩ := hQ _ _ _ hq
  have eL : LL = [] := by
    cases LL with
    | nil => rfl
    | cons q _ => exact (hL q List.mem_cons_self).elim
  subst eL
  rw [List.append_nil] at X'
  obtain ⟨t2, a1, b1⟩ := kk v q1 T' (by rw [e1, q2]) X'
  exact ⟨t2, st t2 a1, b1⟩
theorem w_cell {H : Heap} {locs : List Loc} {cells slots : Nat} {Q : State → Prop} {pc : Nat} {ls : Array Slot} {rest : List Value} {j : Nat} (hc : cells ≤ 600000) (hs : slots ≤ 7302250) (C : lw_At p s m meth c b L xs) (hL : L ≤ 260) (hS : va_S (fun q : Nat => s.heap.size ≤ q) s.heap H locs) (hsz : ls.size = 19) (hj : j < 2 ^ 30) (hcat : (rest.map fun v => v.category).sum ≤ 8) (hd : decode cL_law pc = .ok (.invokestatic 23, 3))
    (kk : ∀ v : Int32, W p l e room_1 s m #[Value.ref b] below meth c H locs cells slots Q (F0 m (pc + 3) ls (.int v :: rest))) : W p l e room_1 s m #[Value.ref b] below meth c H locs cells slots Q (F0 m pc ls (.int (nI j) :: .ref b :: rest)) := by
  have hts := C.2.2.2.2.2.1
  have hX := C.2.2.2.2.2.2.1
  have hbl := C.2.2.2.2.2.2.2.1
  have hX1 : va_X b L xs s H := hX.kept (hS.2.1 b hbl (Nat.not_le.mpr hbl))
  have hk := ksL_cell
  refine w_still (y := yL_cell) (R := fun v => ∃ x : Int32, v = some (.int x)) (va_runS (l := l) (e := e) (below := below) (meth := meth) (locs := locs) (cells := cells) (slots := slots) (R := room_1) (ret := some .int) (As := [.ref b, .int (nI j)]) (rest := rest) (g := F0 m pc ls (.int (nI j) :: .ref b :: rest)) ⟨C.1, C.2.1, C.2.2.2.1, C.2.2.2.2.1, hts⟩ (c_cell l b L j xs H (by omega) hj)
    (va_cwS 2 hts (good_S lmL_23' hk) rfl rfl rfl ⟨hk.1.2.2.1, hk.1.2.2.2.1, hk.1.2.2.2.2⟩ ⟨Nat.le_of_ble_eq_true rfl, Nat.le_of_ble_eq_true rfl⟩)
    ⟨fun a U g mk q => ⟨q.1, q.2.1, q.2.2.1, va_X.moved (u := U) (U := U.calling g mk a) (Vm.Alike.refl U.vm) q.2.2.2⟩, fun U hU hW => ⟨rfl, hU, Nat.lt_of_lt_of_le hbl hS.1, hX1.moved hW.alike⟩⟩
    rfl rfl hsz rfl (lv_room hcat) hd ⟨hc, hs⟩) (fun st v t q => ?_) (fun v q => ?_)
  · obtain ⟨⟨x, hx⟩, ht⟩ := q
    cases hx
    exact ⟨⟨x, rfl⟩, ht⟩
  · obtain ⟨x, rfl⟩ := q
    exact kk x
theorem w_up {H : Heap} {locs : List Loc} {cells slots : Nat} {Q : State → Prop} {pc : Nat} {ls : Array Slot} {rest : List Value} {q : Nat} {x : Int32} (hc : cells ≤ 600000) (hs : slots ≤ 7302250) (C : lw_At p s m meth c b L xs) (hsz : ls.size = 19) (h0 : 0 < q) (hq : q < 2 ^ 31) (hcat : (rest.map fun v => v.category).sum ≤ 8) (hd : decode cL_law pc = .ok (.invokestatic 29, 3))
    (kk : ∀ r, r < q → W p l e room_1 s m #[Value.ref b] below meth c H locs cells slots Q (F0 m (pc + 3) ls (.int (nI r) :: rest))) : W p l e room_1 s m #[Value.ref b] below meth c H locs cells slots Q (F0 m pc ls (.int (nI q) :: .int x :: rest)) := by
  have hts := C.2.2.2.2.2.1
  have hk := ksL_up
  refine w_still (y := yL_up) (R := fun v => ∃ r, r < q ∧ v = some (.int (nI r))) (va_runS (l := l) (e := e) (below := below) (meth := meth) (locs := locs) (cells := cells) (slots := slots) (R := room_1) (ret := some .int) (As := [.int x, .int (nI q)]) (rest := rest) (g := F0 m pc ls (.int (nI q) :: .int x :: rest)) ⟨C.1, C.2.1, C.2.2.2.1, C.2.2.2.2.1, hts⟩ (c_up l x q H h0 hq)
    (va_cwS 2 hts (good_S lmL_29' hk) rfl rfl rfl ⟨hk.1.2.2.1, hk.1.2.2.2.1, hk.1.2.2.2.2⟩ ⟨Nat.le_of_ble_eq_true rfl, Nat.le_of_ble_eq_true rfl⟩)
    ⟨fun a U g mk z => ⟨z.1, z.2⟩, fun U hU hW => ⟨rfl, hU⟩⟩
    rfl rfl hsz rfl (lv_room hcat) hd ⟨hc, hs⟩) (fun st v t z => ?_) (fun v z => ?_)
  · obtain ⟨⟨r, hr, hx⟩, ht⟩ := z
    cases hx
    exact ⟨⟨r, hr, rfl⟩, ht⟩
  · obtain ⟨r, hr, rfl⟩ := z
    exact kk r hr
/-- what holds all through the law, once the object and the two arrays are made -/
def LK (p : Program) (s : State) (m : MethodId) (meth : Method) (c : Code) (b L : Nat) (xs : Nat → Int32) (G : WG) : Prop := lw_At p s m meth c b L xs ∧ L ≤ 260 ∧ wD G ∧ wK G s ∧ (∀ t, t < 75 → s.heap.size ≤ G.2.1 t) ∧ G.2.1 75 = b
/-- inside the law, at pc, with locals lv and stack st in memory μ: it comes to its end with true -/
def WL (p : Program) (l : Launch) (e : Env) (s : State) (m : MethodId) (below : List Frame) (meth : Method) (c : Code) (b : Nat) (G : WG) (pc : Nat) (lv : List (Option Value)) (st : List Value) (μ : Mem) : Prop := ∀ (H : Heap) (locs : List Loc) (ls : Array Slot), wP G μ H → va_S (fun q : Nat => s.heap.size ≤ q) s.heap H locs → lvh G ls 19 lv → W p l e room_1 s m #[Value.ref b] below meth c H locs 100 8000 (lw_Z below #[Value.ref b] s) (F0 m pc ls (st.map (trV G)))
variable {k' : MK} {pc : Nat} {lv : List (Option Value)} {st : List Value} {μ : Mem}
theorem LK.D {μ : Mem} (C : LK p s m meth c b L xs G) : va_D (fun q : Nat => s.heap.size ≤ q) (wsOf G μ) := ⟨fun i j x y hi hj hxy => (wD.D (sz := 0) (μ := μ) C.2.2.1).1 i j x y hi hj hxy, fun k q hk => by
  obtain ⟨a1, a2⟩ := wsOf_at hk
  rw [a2]
  exact C.2.2.2.2.1 k a1⟩
theorem wl_lo {lv lv' : List (Option Value)} (h : lv = lv') (kk : WL p l e s m below meth c b G pc lv' st μ) : WL p l e s m below meth c b G pc lv st μ := by rw [h]; exact kk
theorem wl_mask {lv : List (Option Value)} (lv' : List (Option Value)) (h : ∀ (i : Nat) (v : Value), lv'[i]? = some (some v) → lv[i]? = some (some v)) (kk : WL p l e s m below meth c b G pc lv' st μ) : WL p l e s m below meth c b G pc lv st μ :=
  fun H locs ls hP hS hl => kk H locs ls hP hS ⟨hl.1, hl.2.1, fun i v hi => hl.2.2 i v (h i v hi)⟩
theorem wl_frg (bs : List Bool) (kk : WL p l e s m below meth c b G pc (frg lv bs) st μ) : WL p l e s m below meth c b G pc lv st μ := wl_mask _ (frg_get lv bs) kk
theorem wl_cell {k : Int32} (C : LK p s m meth c b L xs G) (j : Nat) (hd : decode cL_law pc = .ok (.invokestatic 23, 3)) (hk : k = nI j) (hj : j < 2 ^ 30) (hcat : catS st ≤ 8) (kk : ∀ v : Int32, WL p l e s m below meth c b G (pc + 3) lv (.int v :: st) μ) : WL p l e s m below meth c b G pc lv (.int k :: .ref 75 :: st) μ := by
  intro H locs ls hP hS hl
  subst hk
  show W p l e room_1 s m #[Value.ref b] below meth c H locs 100 8000 (lw_Z below #[Value.ref b] s) (F0 m pc ls (.int (nI j) :: .ref (G.2.1 75) :: st.map (trV G)))
  rw [C.2.2.2.2.2]
  exact w_cell (Nat.le_of_ble_eq_true rfl) (Nat.le_of_ble_eq_true rfl) C.1 C.2.1 hS hl.1 hj (by rw [catS_eq]; exact hcat) hd (fun v => kk v H locs ls hP hS hl)
theorem wl_up {x : Int32} {q : Nat} (C : LK p s m meth c b L xs G) (hd : decode cL_law pc = .ok (.invokestatic 29, 3)) (h0 : 0 < q) (hq : q < 2 ^ 31) (hcat : catS st ≤ 8) (kk : ∀ r, r < q → WL p l e s m below meth c b G (pc + 3) lv (.int (nI r) :: st) μ) : WL p l e s m below meth c b G pc lv (.int (nI q) :: .int x :: st) μ :=
  fun H locs ls hP hS hl => w_up (Nat.le_of_ble_eq_true rfl) (Nat.le_of_ble_eq_true rfl) C.1 hl.1 h0 hq (by rw [catS_eq]; exact hcat) hd (fun r hr => kk r hr H locs ls hP hS hl)
theorem wl_run {H : Heap} {locs : List Loc} {ls : Array Slot} {st0 rest : List Value} {a : Array Value} {Q' : QM} (C : LK p s m meth c b L xs G)
    (hr : va_Run p l e room_1 s m #[Value.ref b] below meth c H locs 100 8000 0 0 (F0 m pc ls st0) rest (wQ G Q' H.size a) (wA G H.size)) (hS : va_S (fun q : Nat => s.heap.size ≤ q) s.heap H locs)
    (kk : ∀ (r : Option Value) (μ' : Mem) (H1 : Heap) (locs1 : List Loc), Q' r μ' → wP G μ' H1 → va_S (fun q : Nat => s.heap.size ≤ q) s.heap H1 locs1 → W p l e room_1 s m #[Value.ref b] below meth c H1 locs1 100 8000 (lw_Z below #[Value.ref b] s) (F0 m (pc + 3) ls ((r.map (trV G)).toList ++ rest))) : W p l e room_1 s m #[Value.ref b] below meth c H locs 100 8000 (lw_Z below #[Value.ref b] s) (F0 m pc ls st0) := by
  intro T hT X
  obtain ⟨v, st₀, t, T', LL, h0, X', hL, e1, e2, ⟨⟨r, μ', hv, hq, hp⟩, hz, hk⟩, st⟩ := hr T hT X
  cases hv
  rw [h0] at hz hk
  have hm : ∀ q, wA G H.size q → s.heap.size ≤ q := fun q h => by
    rcases h with ⟨t0, ht0, rfl⟩ | h
    · exact C.2.2.2.2.1 t0 ht0
    · exact Nat.le_trans hS.1 h
  obtain ⟨t2, a1, b1⟩ := kk r μ' T'.heap (locs ++ LL) hq (by rw [e1]; exact hp)
    ⟨Nat.le_trans hS.1 (by rw [e1]; exact hz), fun q h1 h2 => by rw [e1, hk q (Nat.lt_of_lt_of_le h1 hS.1) (fun z => h2 (hm q z))]; exact hS.2.1 q h1 h2, fun q hq => by
      rcases List.mem_append.mp hq with h | h
      · exact hS.2.2 q h
      · exact hm _ (hL q h)⟩ T' rfl X'
  exact ⟨t2, st t2 a1, b1⟩
theorem wl_callV {t ci n idx : Nat} {as rest : List Value} {sl : List Value} {stk : List Value} (C : LK p s m meth c b L xs G) (hd : decode cL_law pc = .ok (.invokevirtual idx, 3)) (hlink : Cond.methodLink RL idx k'.1 ∈ wT) (hk : lkV k' n) (hsh : shp t = .inr (ci, sl)) (hcl : (vwCl[ci]?).map (fun q => q.1) = some k'.1.cls) (hml : k'.2.2.1 ≤ 21) (hst : stk = as.reverse ++ .ref t :: rest) (hlen : as.length = n) (hcat : catS rest ≤ 8) (hM : MW k' 4 (.ref t :: as) μ (fun r μ' => WL p l e s m below meth c b G (pc + 3) lv (r.toList ++ rest) μ')) : WL p l e s m below meth c b G pc lv stk μ := by
  intro H locs ls hP hS hl
  obtain ⟨⟨h1, h2, h3, h4, h5⟩, h6, h7⟩ := hk
  have hts := C.1.2.2.2.2.2.1
  have hK := C.2.2.2.1
  subst hst
  have hG : GoodIn lw_tbl (wsV RL idx k'.1.cls k'.1 (wsM k')) := good_app (fun w hw => by
    simp only [List.mem_cons, List.not_mem_nil, or_false] at hw
    rcases hw with rfl | rfl | rfl | rfl <;> assumption) (fun w h => wT_tbl h) (by
    intro w hw
    rcases List.mem_cons.mp hw with rfl | hw
    · exact ⟨wT_tbl h2, wT_good h2⟩
    · exact ⟨wT_tbl hw, wT_good hw⟩)
  obtain ⟨qc, hqc, hqn⟩ : ∃ qc : vw_C, vwCl[ci]? = some qc ∧ qc.1 = k'.1.cls := by
    cases hv : vwCl[ci]? with
    | none => rw [hv] at hcl; cases hcl
    | some qc => rw [hv] at hcl; exact ⟨qc, rfl, Option.some.inj hcl⟩
  have hrun := va_runV (l := l) (e := e) (below := below) (meth := meth) (locs := locs) (cells := 100) (slots := 8000) (R := room_1) (ret := k'.2.2.2) (As := as.map (trV G)) (rest := rest.map (trV G)) (g := F0 m pc ls ((as.reverse ++ .ref t :: rest).map (trV G))) (b := G.2.1 t) ⟨C.1.1, C.1.2.1, C.1.2.2.2.1, C.1.2.2.2.2.1, hts⟩ (hM l G H.size C.2.2.1)
    (cwV n hts hG rfl rfl rfl ⟨rfl, h3, h4, h5⟩ ⟨Nat.le_of_ble_eq_true rfl, by show 8 + (k'.2.2.1 + 11) + 40 * 4 ≤ 230; omega⟩)
    ⟨blind_pc, by have := va_recv hK.1 hP hqc (ws_r hsh); rw [hqn] at this; exact this, fun U hU hW => ⟨rfl, by rw [hU], by rw [hU]; exact hP, hK.warm hW⟩⟩
    rfl (by rw [List.length_map]; exact hlen) hl.1 (by simp [trV]) (lv_room (by rw [catS_eq]; exact hcat)) hd ⟨Nat.le_of_ble_eq_true rfl, Nat.le_of_ble_eq_true rfl⟩
  refine wl_run C hrun hS (fun r μ' H1 locs1 hq hP1 hS1 => ?_)
  rw [toL_map]
  exact hq.1 H1 locs1 ls hP1 hS1 hl
theorem wl_callS {n idx : Nat} {as rest : List Value} {stk : List Value} (C : LK p s m meth c b L xs G) (hd : decode cL_law pc = .ok (.invokestatic idx, 3)) (hlink : Cond.methodLink RL idx k'.1 ∈ wT) (hk : lkS k' n) (hml : k'.2.2.1 ≤ 21) (hst : stk = as.reverse ++ rest) (hlen : as.length = n) (hcat : catS rest ≤ 8) (hM : MW k' 4 as μ (fun r μ' => WL p l e s m below meth c b G (pc + 3) lv (r.toList ++ rest) μ')) : WL p l e s m below meth c b G pc lv stk μ := by
  intro H locs ls hP hS hl
  have hts := C.1.2.2.2.2.2.1
  have hK := C.2.2.2.1
  subst hst
  have hrun := va_runS (l := l) (e := e) (below := below) (meth := meth) (locs := locs) (cells := 100) (slots := 8000) (R := room_1) (ret := k'.2.2.2) (As := as.map (trV G)) (rest := rest.map (trV G)) (g := F0 m pc ls ((as.reverse ++ rest).map (trV G))) ⟨C.1.1, C.1.2.1, C.1.2.2.2.1, C.1.2.2.2.2.1, hts⟩ (hM l G H.size C.2.2.1)
    (va_cwS n hts (good_S hlink hk) rfl rfl rfl ⟨hk.1.2.2.1, hk.1.2.2.2.1, hk.1.2.2.2.2⟩ ⟨Nat.le_of_ble_eq_true rfl, by show 8 + (k'.2.2.1 + 11) + 40 * 4 ≤ 230; omega⟩)
    ⟨blind_pc, fun U hU hW => ⟨rfl, by rw [hU], by rw [hU]; exact hP, hK.warm hW⟩⟩
    rfl (by rw [List.length_map]; exact hlen) hl.1 (by simp) (lv_room (by rw [catS_eq]; exact hcat)) hd ⟨Nat.le_of_ble_eq_true rfl, Nat.le_of_ble_eq_true rfl⟩
  refine wl_run C hrun hS (fun r μ' H1 locs1 hq hP1 hS1 => ?_)
  rw [toL_map]
  exact hq.1 H1 locs1 ls hP1 hS1 hl
theorem wl_lald {t n : Nat} {i : Int32} (C : LK p s m meth c b L xs G) (j : Nat) (hd : decode cL_law pc = .ok (.laload, 1)) (hsh : shp t = .inl (2, n)) (hi : i = nI j) (hj : j < n) (kk : WL p l e s m below meth c b G (pc + 1) lv (.long (μ.2 t j) :: st) μ) : WL p l e s m below meth c b G pc lv (.int i :: .ref t :: st) μ := by
  intro H locs ls hP hS hl
  have hn := shp_n hsh
  have e2 : (nI j).toNatClampNeg = j := nI_clamp (by omega)
  subst hi
  refine va_lald C.1.1 C.1.2.1 C.2.2.2.1.1 hP t 2 (ws_aL hsh) rfl (vp_in_nI hj (by omega)) hd ?_
  rw [e2]
  exact kk H locs ls hP hS hl
theorem wl_last {t n : Nat} {i : Int32} {x : Int64} (C : LK p s m meth c b L xs G) (j : Nat) (hd : decode cL_law pc = .ok (.lastore, 1)) (hsh : shp t = .inl (2, n)) (hi : i = nI j) (hj : j < n) (kk : WL p l e s m below meth c b G (pc + 1) lv st (sL μ t j x)) : WL p l e s m below meth c b G pc lv (.long x :: .int i :: .ref t :: st) μ := by
  intro H locs ls hP hS hl
  have hn := shp_n hsh
  have e2 : (nI j).toNatClampNeg = j := nI_clamp (by omega)
  subst hi
  refine va_last C.1.1 C.1.2.1 C.2.2.2.1.1 hP C.D hS t 2 (ws_aL hsh) rfl (vp_in_nI hj (by omega)) hd (fun H1 locs1 hP1 _ hS1 => ?_)
  rw [e2, ws_bL hsh, sL_bL] at hP1
  exact kk H1 locs1 ls hP1 hS1 hl
theorem wl_end (C : LK p s m meth c b L xs G) : WL p l e s m below meth c b G 567 lv [] μ := by
  intro H locs ls hP hS hl
  refine lv_iconst (v := 1) C.1.1 C.1.2.1 dL_law_567 (by decide) ?_
  refine va_forget (fun q hq => hS.2.2 q hq) ?_
  refine W.widen (k := 600000) (n := 7302250) (Nat.le_of_ble_eq_true rfl) (Nat.le_of_ble_eq_true rfl) ?_
  exact lw_ret C.1.1 C.1.2.1 C.1.2.2.1 C.1.2.2.2.2.2.2.2.2.1 dL_law_568
theorem wl_callV1 {t ci idx : Nat} {a1 : Value} {rest sl : List Value} (C : LK p s m meth c b L xs G) (hd : decode cL_law pc = .ok (.invokevirtual idx, 3)) (hlink : Cond.methodLink RL idx k'.1 ∈ wT) (hk : lkV k' 1) (hsh : shp t = .inr (ci, sl)) (hcl : (vwCl[ci]?).map (fun q => q.1) = some k'.1.cls) (hml : k'.2.2.1 ≤ 21) (hcat : catS rest ≤ 8) (hM : MW k' 4 (.ref t :: [a1]) μ (fun r μ' => WL p l e s m below meth c b G (pc + 3) lv (r.toList ++ rest) μ')) : WL p l e s m below meth c b G pc lv (a1 :: .ref t :: rest) μ :=
  wl_callV (as := [a1]) C hd hlink hk hsh hcl hml rfl rfl hcat hM
theorem wl_callV2 {t ci idx : Nat} {a1 a2 : Value} {rest sl : List Value} (C : LK p s m meth c b L xs G) (hd : decode cL_law pc = .ok (.invokevirtual idx, 3)) (hlink : Cond.methodLink RL idx k'.1 ∈ wT) (hk : lkV k' 2) (hsh : shp t = .inr (ci, sl)) (hcl : (vwCl[ci]?).map (fun q => q.1) = some k'.1.cls) (hml : k'.2.2.1 ≤ 21) (hcat : catS rest ≤ 8) (hM : MW k' 4 (.ref t :: [a1, a2]) μ (fun r μ' => WL p l e s m below meth c b G (pc + 3) lv (r.toList ++ rest) μ')) : WL p l e s m below meth c b G pc lv (a2 :: a1 :: .ref t :: rest) μ :=
  wl_callV (as := [a1, a2]) C hd hlink hk hsh hcl hml rfl rfl hcat hM
theorem wl_callV3 {t ci idx : Nat} {a1 a2 a3 : Value} {rest sl : List Value} (C : LK p s m meth c b L xs G) (hd : decode cL_law pc = .ok (.invokevirtual idx, 3)) (hlink : Cond.methodLink RL idx k'.1 ∈ wT) (hk : lkV k' 3) (hsh : shp t = .inr (ci, sl)) (hcl : (vwCl[ci]?).map (fun q => q.1) = some k'.1.cls) (hml : k'.2.2.1 ≤ 21) (hcat : catS rest ≤ 8) (hM : MW k' 4 (.ref t :: [a1, a2, a3]) μ (fun r μ' => WL p l e s m below meth c b G (pc + 3) lv (r.toList ++ rest) μ')) : WL p l e s m below meth c b G pc lv (a3 :: a2 :: a1 :: .ref t :: rest) μ :=
  wl_callV (as := [a1, a2, a3]) C hd hlink hk hsh hcl hml rfl rfl hcat hM
theorem wl_callV4 {t ci idx : Nat} {a1 a2 a3 a4 : Value} {rest sl : List Value} (C : LK p s m meth c b L xs G) (hd : decode cL_law pc = .ok (.invokevirtual idx, 3)) (hlink : Cond.methodLink RL idx k'.1 ∈ wT) (hk : lkV k' 4) (hsh : shp t = .inr (ci, sl)) (hcl : (vwCl[ci]?).map (fun q => q.1) = some k'.1.cls) (hml : k'.2.2.1 ≤ 21) (hcat : catS rest ≤ 8) (hM : MW k' 4 (.ref t :: [a1, a2, a3, a4]) μ (fun r μ' => WL p l e s m below meth c b G (pc + 3) lv (r.toList ++ rest) μ')) : WL p l e s m below meth c b G pc lv (a4 :: a3 :: a2 :: a1 :: .ref t :: rest) μ :=
  wl_callV (as := [a1, a2, a3, a4]) C hd hlink hk hsh hcl hml rfl rfl hcat hM
theorem wl_callS5 {idx : Nat} {a1 a2 a3 a4 a5 : Value} {rest : List Value} (C : LK p s m meth c b L xs G) (hd : decode cL_law pc = .ok (.invokestatic idx, 3)) (hlink : Cond.methodLink RL idx k'.1 ∈ wT) (hk : lkS k' 5) (hml : k'.2.2.1 ≤ 21) (hcat : catS rest ≤ 8) (hM : MW k' 4 [a1, a2, a3, a4, a5] μ (fun r μ' => WL p l e s m below meth c b G (pc + 3) lv (r.toList ++ rest) μ')) : WL p l e s m below meth c b G pc lv (a5 :: a4 :: a3 :: a2 :: a1 :: rest) μ :=
  wl_callS (as := [a1, a2, a3, a4, a5]) C hd hlink hk hml rfl rfl hcat hM
theorem wl_iadd {x y : Int32} (C : LK p s m meth c b L xs G) (hd : decode cL_law pc = .ok (.iadd, 1)) (kk : WL p l e s m below meth c b G (pc + 1) lv (.int (x + y) :: st) μ) : WL p l e s m below meth c b G pc lv (.int y :: .int x :: st) μ :=
  fun H locs ls hP hS hl => lv_iadd C.1.1 C.1.2.1 hd (kk H locs ls hP hS hl)
theorem wl_isub {x y : Int32} (C : LK p s m meth c b L xs G) (hd : decode cL_law pc = .ok (.isub, 1)) (kk : WL p l e s m below meth c b G (pc + 1) lv (.int (x - y) :: st) μ) : WL p l e s m below meth c b G pc lv (.int y :: .int x :: st) μ :=
  fun H locs ls hP hS hl => lv_isub C.1.1 C.1.2.1 hd (kk H locs ls hP hS hl)
theorem wl_ladd {x y : Int64} (C : LK p s m meth c b L xs G) (hd : decode cL_law pc = .ok (.ladd, 1)) (kk : WL p l e s m below meth c b G (pc + 1) lv (.long (x + y) :: st) μ) : WL p l e s m below meth c b G pc lv (.long y :: .long x :: st) μ :=
  fun H locs ls hP hS hl => lv_ladd C.1.1 C.1.2.1 hd (kk H locs ls hP hS hl)
theorem wl_lmul {x y : Int64} (C : LK p s m meth c b L xs G) (hd : decode cL_law pc = .ok (.lmul, 1)) (kk : WL p l e s m below meth c b G (pc + 1) lv (.long (x * y) :: st) μ) : WL p l e s m below meth c b G pc lv (.long y :: .long x :: st) μ :=
  fun H locs ls hP hS hl => lv_lmul C.1.1 C.1.2.1 hd (kk H locs ls hP hS hl)
theorem wl_i2l {x : Int32} (C : LK p s m meth c b L xs G) (hd : decode cL_law pc = .ok (.i2l, 1)) (kk : WL p l e s m below meth c b G (pc + 1) lv (.long x.toInt64 :: st) μ) : WL p l e s m below meth c b G pc lv (.int x :: st) μ :=
  fun H locs ls hP hS hl => lv_i2l C.1.1 C.1.2.1 hd rfl (kk H locs ls hP hS hl)
theorem wl_iconst {n : Int} (C : LK p s m meth c b L xs G) (v : Int32) (hd : decode cL_law pc = .ok (.iconst n, 1)) (hv : Int32.ofInt n = v) (kk : WL p l e s m below meth c b G (pc + 1) lv (.int v :: st) μ) : WL p l e s m below meth c b G pc lv st μ :=
  fun H locs ls hP hS hl => lv_iconst C.1.1 C.1.2.1 hd hv (kk H locs ls hP hS hl)
theorem wl_bipush {n : Int} (C : LK p s m meth c b L xs G) (v : Int32) (hd : decode cL_law pc = .ok (.bipush n, 2)) (hv : (Int8.ofInt n).toInt32 = v) (kk : WL p l e s m below meth c b G (pc + 2) lv (.int v :: st) μ) : WL p l e s m below meth c b G pc lv st μ :=
  fun H locs ls hP hS hl => lv_bipush C.1.1 C.1.2.1 hd hv (kk H locs ls hP hS hl)
theorem wl_sipush {n : Int} (C : LK p s m meth c b L xs G) (v : Int32) (hd : decode cL_law pc = .ok (.sipush n, 3)) (hv : (Int16.ofInt n).toInt32 = v) (kk : WL p l e s m below meth c b G (pc + 3) lv (.int v :: st) μ) : WL p l e s m below meth c b G pc lv st μ :=
  fun H locs ls hP hS hl => lv_sipush C.1.1 C.1.2.1 hd hv (kk H locs ls hP hS hl)
theorem wl_lconst {n : Fin 2} (C : LK p s m meth c b L xs G) (v : Int64) (hd : decode cL_law pc = .ok (.lconst n, 1)) (hv : Int64.ofNat (n : Nat) = v) (kk : WL p l e s m below meth c b G (pc + 1) lv (.long v :: st) μ) : WL p l e s m below meth c b G pc lv st μ :=
  fun H locs ls hP hS hl => lv_lconst C.1.1 C.1.2.1 hd hv (kk H locs ls hP hS hl)
theorem wl_iload_n {i : Fin 4} {x : Int32} (C : LK p s m meth c b L xs G) (hd : decode cL_law pc = .ok (.iload_n i, 1)) (hx : lv[(i : Nat)]? = some (some (.int x))) (kk : WL p l e s m below meth c b G (pc + 1) lv (.int x :: st) μ) : WL p l e s m below meth c b G pc lv st μ :=
  fun H locs ls hP hS hl => lv_iload_n C.1.1 C.1.2.1 hd rfl (hl.at hx) (kk H locs ls hP hS hl)
theorem wl_iload {i : Nat} {x : Int32} (C : LK p s m meth c b L xs G) (hd : decode cL_law pc = .ok (.iload i, 2)) (hx : lv[i]? = some (some (.int x))) (kk : WL p l e s m below meth c b G (pc + 2) lv (.int x :: st) μ) : WL p l e s m below meth c b G pc lv st μ :=
  fun H locs ls hP hS hl => lv_iload C.1.1 C.1.2.1 hd (hl.at hx) (kk H locs ls hP hS hl)
theorem wl_istore_n {i : Fin 4} {x : Int32} (C : LK p s m meth c b L xs G) (hd : decode cL_law pc = .ok (.istore_n i, 1)) (hi : (i : Nat) < 19) (kk : WL p l e s m below meth c b G (pc + 1) (stV lv i (.int x)) st μ) : WL p l e s m below meth c b G pc lv (.int x :: st) μ :=
  fun H locs ls hP hS hl => lv_istore_n C.1.1 C.1.2.1 hd rfl hl.has hi rfl (fun ls' hl' => kk H locs ls' hP hS (lvh_st (v := .int x) hl'))
theorem wl_istore {i : Nat} {x : Int32} (C : LK p s m meth c b L xs G) (hd : decode cL_law pc = .ok (.istore i, 2)) (hi : i < 19) (kk : WL p l e s m below meth c b G (pc + 2) (stV lv i (.int x)) st μ) : WL p l e s m below meth c b G pc lv (.int x :: st) μ :=
  fun H locs ls hP hS hl => lv_istore C.1.1 C.1.2.1 hd hl.has hi rfl (fun ls' hl' => kk H locs ls' hP hS (lvh_st (v := .int x) hl'))
theorem wl_lload_n {i : Fin 4} {x : Int64} (C : LK p s m meth c b L xs G) (hd : decode cL_law pc = .ok (.lload_n i, 1)) (hx : lv[(i : Nat)]? = some (some (.long x))) (kk : WL p l e s m below meth c b G (pc + 1) lv (.long x :: st) μ) : WL p l e s m below meth c b G pc lv st μ :=
  fun H locs ls hP hS hl => lv_lload_n C.1.1 C.1.2.1 hd rfl (hl.at hx) (kk H locs ls hP hS hl)
theorem wl_lload {i : Nat} {x : Int64} (C : LK p s m meth c b L xs G) (hd : decode cL_law pc = .ok (.lload i, 2)) (hx : lv[i]? = some (some (.long x))) (kk : WL p l e s m below meth c b G (pc + 2) lv (.long x :: st) μ) : WL p l e s m below meth c b G pc lv st μ :=
  fun H locs ls hP hS hl => lv_lload C.1.1 C.1.2.1 hd (hl.at hx) (kk H locs ls hP hS hl)
theorem wl_lstore_n {i : Fin 4} {x : Int64} (C : LK p s m meth c b L xs G) (hd : decode cL_law pc = .ok (.lstore_n i, 1)) (hi : (i : Nat) + 1 < 19) (kk : WL p l e s m below meth c b G (pc + 1) (stW lv i (.long x)) st μ) : WL p l e s m below meth c b G pc lv (.long x :: st) μ :=
  fun H locs ls hP hS hl => lv_lstore_n C.1.1 C.1.2.1 hd rfl hl.has hi rfl (fun ls' hl' => kk H locs ls' hP hS (lvh_sw (v := .long x) hl'))
theorem wl_lstore {i : Nat} {x : Int64} (C : LK p s m meth c b L xs G) (hd : decode cL_law pc = .ok (.lstore i, 2)) (hi : i + 1 < 19) (kk : WL p l e s m below meth c b G (pc + 2) (stW lv i (.long x)) st μ) : WL p l e s m below meth c b G pc lv (.long x :: st) μ :=
  fun H locs ls hP hS hl => lv_lstore C.1.1 C.1.2.1 hd hl.has hi rfl (fun ls' hl' => kk H locs ls' hP hS (lvh_sw (v := .long x) hl'))
theorem wl_aload_n {i : Fin 4} {x : Nat} (C : LK p s m meth c b L xs G) (hd : decode cL_law pc = .ok (.aload_n i, 1)) (hx : lv[(i : Nat)]? = some (some (.ref x))) (kk : WL p l e s m below meth c b G (pc + 1) lv (.ref x :: st) μ) : WL p l e s m below meth c b G pc lv st μ :=
  fun H locs ls hP hS hl => lv_aload_n C.1.1 C.1.2.1 hd rfl (hl.at hx) (kk H locs ls hP hS hl)
theorem wl_aload {i : Nat} {x : Nat} (C : LK p s m meth c b L xs G) (hd : decode cL_law pc = .ok (.aload i, 2)) (hx : lv[i]? = some (some (.ref x))) (kk : WL p l e s m below meth c b G (pc + 2) lv (.ref x :: st) μ) : WL p l e s m below meth c b G pc lv st μ :=
  fun H locs ls hP hS hl => lv_aload C.1.1 C.1.2.1 hd (hl.at hx) (kk H locs ls hP hS hl)
theorem wl_iinc {i : Nat} {n : Int} {x : Int32} (C : LK p s m meth c b L xs G) (v : Int32) (hd : decode cL_law pc = .ok (.iinc i n, 3)) (hx : lv[i]? = some (some (.int x))) (hv : Int32.ofInt n = v) (hi : i < 19) (kk : WL p l e s m below meth c b G (pc + 3) (stV lv i (.int (x + v))) st μ) : WL p l e s m below meth c b G pc lv st μ := by
  intro H locs ls hP hS hl
  obtain ⟨j, hj⟩ := List.getElem?_of_mem (aslF_mem (G := G) hx)
  exact lv_iinc C.1.1 C.1.2.1 hd hl.has (k := j) hj (by rw [hv]) hi rfl (fun ls' hl' => kk H locs ls' hP hS (lvh_st (v := .int (x + v)) hl'))
theorem wl_goto {off : Int} (C : LK p s m meth c b L xs G) (tgt : Nat) (hd : decode cL_law pc = .ok (.goto off, 3)) (ht : (pc : Int) + off = (tgt : Int)) (kk : WL p l e s m below meth c b G tgt lv st μ) : WL p l e s m below meth c b G pc lv st μ :=
  fun H locs ls hP hS hl => lv_goto C.1.1 C.1.2.1 hd ht (kk H locs ls hP hS hl)
theorem wl_if_eq {x : Int32} {off : Int} (C : LK p s m meth c b L xs G) (tgt : Nat) (hd : decode cL_law pc = .ok (.ifCond .eq off, 3)) (ht : (pc : Int) + off = (tgt : Int)) (kt : x.toInt = 0 → WL p l e s m below meth c b G tgt lv st μ) (kf : ¬ x.toInt = 0 → WL p l e s m below meth c b G (pc + 3) lv st μ) : WL p l e s m below meth c b G pc lv (.int x :: st) μ :=
  fun H locs ls hP hS hl => lv_if_eq C.1.1 C.1.2.1 hd ht (fun hh => kt (by first | simpa only [Int32.eq_toInt, z32] using hh | simpa [Int32.eq_toInt, z32] using hh) H locs ls hP hS hl) (fun hh => kf (by first | simpa only [Int32.eq_toInt, z32] using hh | simpa [Int32.eq_toInt, z32] using hh) H locs ls hP hS hl)
theorem wl_if_eqT {x : Int32} {off : Int} (C : LK p s m meth c b L xs G) (tgt : Nat) (hd : decode cL_law pc = .ok (.ifCond .eq off, 3)) (ht : (pc : Int) + off = (tgt : Int)) (h : x.toInt = 0) (kt : WL p l e s m below meth c b G tgt lv st μ) : WL p l e s m below meth c b G pc lv (.int x :: st) μ := wl_if_eq C tgt hd ht (fun _ => kt) (fun hh => absurd h hh)
theorem wl_if_eqF {x : Int32} {off : Int} (C : LK p s m meth c b L xs G) (tgt : Nat) (hd : decode cL_law pc = .ok (.ifCond .eq off, 3)) (ht : (pc : Int) + off = (tgt : Int)) (h : ¬ x.toInt = 0) (kf : WL p l e s m below meth c b G (pc + 3) lv st μ) : WL p l e s m below meth c b G pc lv (.int x :: st) μ := wl_if_eq C tgt hd ht (fun hh => absurd hh h) (fun _ => kf)
theorem wl_ic_eq {x y : Int32} {off : Int} (C : LK p s m meth c b L xs G) (tgt : Nat) (hd : decode cL_law pc = .ok (.if_icmp .eq off, 3)) (ht : (pc : Int) + off = (tgt : Int)) (kt : x.toInt = y.toInt → WL p l e s m below meth c b G tgt lv st μ) (kf : ¬ x.toInt = y.toInt → WL p l e s m below meth c b G (pc + 3) lv st μ) : WL p l e s m below meth c b G pc lv (.int y :: .int x :: st) μ :=
  fun H locs ls hP hS hl => lv_icmp_eq C.1.1 C.1.2.1 hd ht (fun hh => kt (by first | simpa only [Int32.eq_toInt, z32] using hh | simpa [Int32.eq_toInt, z32] using hh) H locs ls hP hS hl) (fun hh => kf (by first | simpa only [Int32.eq_toInt, z32] using hh | simpa [Int32.eq_toInt, z32] using hh) H locs ls hP hS hl)
theorem wl_ic_eqT {x y : Int32} {off : Int} (C : LK p s m meth c b L xs G) (tgt : Nat) (hd : decode cL_law pc = .ok (.if_icmp .eq off, 3)) (ht : (pc : Int) + off = (tgt : Int)) (h : x.toInt = y.toInt) (kt : WL p l e s m below meth c b G tgt lv st μ) : WL p l e s m below meth c b G pc lv (.int y :: .int x :: st) μ := wl_ic_eq C tgt hd ht (fun _ => kt) (fun hh => absurd h hh)
theorem wl_ic_eqF {x y : Int32} {off : Int} (C : LK p s m meth c b L xs G) (tgt : Nat) (hd : decode cL_law pc = .ok (.if_icmp .eq off, 3)) (ht : (pc : Int) + off = (tgt : Int)) (h : ¬ x.toInt = y.toInt) (kf : WL p l e s m below meth c b G (pc + 3) lv st μ) : WL p l e s m below meth c b G pc lv (.int y :: .int x :: st) μ := wl_ic_eq C tgt hd ht (fun hh => absurd hh h) (fun _ => kf)
theorem wl_if_ne {x : Int32} {off : Int} (C : LK p s m meth c b L xs G) (tgt : Nat) (hd : decode cL_law pc = .ok (.ifCond .ne off, 3)) (ht : (pc : Int) + off = (tgt : Int)) (kt : ¬ x.toInt = 0 → WL p l e s m below meth c b G tgt lv st μ) (kf : ¬ ¬ x.toInt = 0 → WL p l e s m below meth c b G (pc + 3) lv st μ) : WL p l e s m below meth c b G pc lv (.int x :: st) μ :=
  fun H locs ls hP hS hl => lv_if_ne C.1.1 C.1.2.1 hd ht (fun hh => kt (by first | simpa only [Int32.eq_toInt, z32] using hh | simpa [Int32.eq_toInt, z32] using hh) H locs ls hP hS hl) (fun hh => kf (by first | simpa only [Int32.eq_toInt, z32] using hh | simpa [Int32.eq_toInt, z32] using hh) H locs ls hP hS hl)
theorem wl_if_neT {x : Int32} {off : Int} (C : LK p s m meth c b L xs G) (tgt : Nat) (hd : decode cL_law pc = .ok (.ifCond .ne off, 3)) (ht : (pc : Int) + off = (tgt : Int)) (h : ¬ x.toInt = 0) (kt : WL p l e s m below meth c b G tgt lv st μ) : WL p l e s m below meth c b G pc lv (.int x :: st) μ := wl_if_ne C tgt hd ht (fun _ => kt) (fun hh => absurd h hh)
theorem wl_if_neF {x : Int32} {off : Int} (C : LK p s m meth c b L xs G) (tgt : Nat) (hd : decode cL_law pc = .ok (.ifCond .ne off, 3)) (ht : (pc : Int) + off = (tgt : Int)) (h : ¬ ¬ x.toInt = 0) (kf : WL p l e s m below meth c b G (pc + 3) lv st μ) : WL p l e s m below meth c b G pc lv (.int x :: st) μ := wl_if_ne C tgt hd ht (fun hh => absurd hh h) (fun _ => kf)
theorem wl_ic_ne {x y : Int32} {off : Int} (C : LK p s m meth c b L xs G) (tgt : Nat) (hd : decode cL_law pc = .ok (.if_icmp .ne off, 3)) (ht : (pc : Int) + off = (tgt : Int)) (kt : ¬ x.toInt = y.toInt → WL p l e s m below meth c b G tgt lv st μ) (kf : ¬ ¬ x.toInt = y.toInt → WL p l e s m below meth c b G (pc + 3) lv st μ) : WL p l e s m below meth c b G pc lv (.int y :: .int x :: st) μ :=
  fun H locs ls hP hS hl => lv_icmp_ne C.1.1 C.1.2.1 hd ht (fun hh => kt (by first | simpa only [Int32.eq_toInt, z32] using hh | simpa [Int32.eq_toInt, z32] using hh) H locs ls hP hS hl) (fun hh => kf (by first | simpa only [Int32.eq_toInt, z32] using hh | simpa [Int32.eq_toInt, z32] using hh) H locs ls hP hS hl)
theorem wl_ic_neT {x y : Int32} {off : Int} (C : LK p s m meth c b L xs G) (tgt : Nat) (hd : decode cL_law pc = .ok (.if_icmp .ne off, 3)) (ht : (pc : Int) + off = (tgt : Int)) (h : ¬ x.toInt = y.toInt) (kt : WL p l e s m below meth c b G tgt lv st μ) : WL p l e s m below meth c b G pc lv (.int y :: .int x :: st) μ := wl_ic_ne C tgt hd ht (fun _ => kt) (fun hh => absurd h hh)
theorem wl_ic_neF {x y : Int32} {off : Int} (C : LK p s m meth c b L xs G) (tgt : Nat) (hd : decode cL_law pc = .ok (.if_icmp .ne off, 3)) (ht : (pc : Int) + off = (tgt : Int)) (h : ¬ ¬ x.toInt = y.toInt) (kf : WL p l e s m below meth c b G (pc + 3) lv st μ) : WL p l e s m below meth c b G pc lv (.int y :: .int x :: st) μ := wl_ic_ne C tgt hd ht (fun hh => absurd hh h) (fun _ => kf)
theorem wl_if_lt {x : Int32} {off : Int} (C : LK p s m meth c b L xs G) (tgt : Nat) (hd : decode cL_law pc = .ok (.ifCond .lt off, 3)) (ht : (pc : Int) + off = (tgt : Int)) (kt : x.toInt < 0 → WL p l e s m below meth c b G tgt lv st μ) (kf : ¬ x.toInt < 0 → WL p l e s m below meth c b G (pc + 3) lv st μ) : WL p l e s m below meth c b G pc lv (.int x :: st) μ :=
  fun H locs ls hP hS hl => lv_if_lt C.1.1 C.1.2.1 hd ht (fun hh => kt (by first | simpa only [Int32.lt_iff_toInt_lt, z32] using hh | simpa [Int32.lt_iff_toInt_lt, z32] using hh) H locs ls hP hS hl) (fun hh => kf (by first | simpa only [Int32.lt_iff_toInt_lt, z32] using hh | simpa [Int32.lt_iff_toInt_lt, z32] using hh) H locs ls hP hS hl)
theorem wl_if_ltT {x : Int32} {off : Int} (C : LK p s m meth c b L xs G) (tgt : Nat) (hd : decode cL_law pc = .ok (.ifCond .lt off, 3)) (ht : (pc : Int) + off = (tgt : Int)) (h : x.toInt < 0) (kt : WL p l e s m below meth c b G tgt lv st μ) : WL p l e s m below meth c b G pc lv (.int x :: st) μ := wl_if_lt C tgt hd ht (fun _ => kt) (fun hh => absurd h hh)
theorem wl_if_ltF {x : Int32} {off : Int} (C : LK p s m meth c b L xs G) (tgt : Nat) (hd : decode cL_law pc = .ok (.ifCond .lt off, 3)) (ht : (pc : Int) + off = (tgt : Int)) (h : ¬ x.toInt < 0) (kf : WL p l e s m below meth c b G (pc + 3) lv st μ) : WL p l e s m below meth c b G pc lv (.int x :: st) μ := wl_if_lt C tgt hd ht (fun hh => absurd hh h) (fun _ => kf)
theorem wl_ic_lt {x y : Int32} {off : Int} (C : LK p s m meth c b L xs G) (tgt : Nat) (hd : decode cL_law pc = .ok (.if_icmp .lt off, 3)) (ht : (pc : Int) + off = (tgt : Int)) (kt : x.toInt < y.toInt → WL p l e s m below meth c b G tgt lv st μ) (kf : ¬ x.toInt < y.toInt → WL p l e s m below meth c b G (pc + 3) lv st μ) : WL p l e s m below meth c b G pc lv (.int y :: .int x :: st) μ :=
  fun H locs ls hP hS hl => lv_icmp_lt C.1.1 C.1.2.1 hd ht (fun hh => kt (by first | simpa only [Int32.lt_iff_toInt_lt, z32] using hh | simpa [Int32.lt_iff_toInt_lt, z32] using hh) H locs ls hP hS hl) (fun hh => kf (by first | simpa only [Int32.lt_iff_toInt_lt, z32] using hh | simpa [Int32.lt_iff_toInt_lt, z32] using hh) H locs ls hP hS hl)
theorem wl_ic_ltT {x y : Int32} {off : Int} (C : LK p s m meth c b L xs G) (tgt : Nat) (hd : decode cL_law pc = .ok (.if_icmp .lt off, 3)) (ht : (pc : Int) + off = (tgt : Int)) (h : x.toInt < y.toInt) (kt : WL p l e s m below meth c b G tgt lv st μ) : WL p l e s m below meth c b G pc lv (.int y :: .int x :: st) μ := wl_ic_lt C tgt hd ht (fun _ => kt) (fun hh => absurd h hh)
theorem wl_ic_ltF {x y : Int32} {off : Int} (C : LK p s m meth c b L xs G) (tgt : Nat) (hd : decode cL_law pc = .ok (.if_icmp .lt off, 3)) (ht : (pc : Int) + off = (tgt : Int)) (h : ¬ x.toInt < y.toInt) (kf : WL p l e s m below meth c b G (pc + 3) lv st μ) : WL p l e s m below meth c b G pc lv (.int y :: .int x :: st) μ := wl_ic_lt C tgt hd ht (fun hh => absurd hh h) (fun _ => kf)
theorem wl_if_ge {x : Int32} {off : Int} (C : LK p s m meth c b L xs G) (tgt : Nat) (hd : decode cL_law pc = .ok (.ifCond .ge off, 3)) (ht : (pc : Int) + off = (tgt : Int)) (kt : 0 ≤ x.toInt → WL p l e s m below meth c b G tgt lv st μ) (kf : ¬ 0 ≤ x.toInt → WL p l e s m below meth c b G (pc + 3) lv st μ) : WL p l e s m below meth c b G pc lv (.int x :: st) μ :=
  fun H locs ls hP hS hl => lv_if_ge C.1.1 C.1.2.1 hd ht (fun hh => kt (by first | simpa only [Int32.le_iff_toInt_le, z32] using hh | simpa [Int32.le_iff_toInt_le, z32] using hh) H locs ls hP hS hl) (fun hh => kf (by first | simpa only [Int32.le_iff_toInt_le, z32] using hh | simpa [Int32.le_iff_toInt_le, z32] using hh) H locs ls hP hS hl)
theorem wl_if_geT {x : Int32} {off : Int} (C : LK p s m meth c b L xs G) (tgt : Nat) (hd : decode cL_law pc = .ok (.ifCond .ge off, 3)) (ht : (pc : Int) + off = (tgt : Int)) (h : 0 ≤ x.toInt) (kt : WL p l e s m below meth c b G tgt lv st μ) : WL p l e s m below meth c b G pc lv (.int x :: st) μ := wl_if_ge C tgt hd ht (fun _ => kt) (fun hh => absurd h hh)
theorem wl_if_geF {x : Int32} {off : Int} (C : LK p s m meth c b L xs G) (tgt : Nat) (hd : decode cL_law pc = .ok (.ifCond .ge off, 3)) (ht : (pc : Int) + off = (tgt : Int)) (h : ¬ 0 ≤ x.toInt) (kf : WL p l e s m below meth c b G (pc + 3) lv st μ) : WL p l e s m below meth c b G pc lv (.int x :: st) μ := wl_if_ge C tgt hd ht (fun hh => absurd hh h) (fun _ => kf)
theorem wl_ic_ge {x y : Int32} {off : Int} (C : LK p s m meth c b L xs G) (tgt : Nat) (hd : decode cL_law pc = .ok (.if_icmp .ge off, 3)) (ht : (pc : Int) + off = (tgt : Int)) (kt : y.toInt ≤ x.toInt → WL p l e s m below meth c b G tgt lv st μ) (kf : ¬ y.toInt ≤ x.toInt → WL p l e s m below meth c b G (pc + 3) lv st μ) : WL p l e s m below meth c b G pc lv (.int y :: .int x :: st) μ :=
  fun H locs ls hP hS hl => lv_icmp_ge C.1.1 C.1.2.1 hd ht (fun hh => kt (by first | simpa only [Int32.le_iff_toInt_le, z32] using hh | simpa [Int32.le_iff_toInt_le, z32] using hh) H locs ls hP hS hl) (fun hh => kf (by first | simpa only [Int32.le_iff_toInt_le, z32] using hh | simpa [Int32.le_iff_toInt_le, z32] using hh) H locs ls hP hS hl)
theorem wl_ic_geT {x y : Int32} {off : Int} (C : LK p s m meth c b L xs G) (tgt : Nat) (hd : decode cL_law pc = .ok (.if_icmp .ge off, 3)) (ht : (pc : Int) + off = (tgt : Int)) (h : y.toInt ≤ x.toInt) (kt : WL p l e s m below meth c b G tgt lv st μ) : WL p l e s m below meth c b G pc lv (.int y :: .int x :: st) μ := wl_ic_ge C tgt hd ht (fun _ => kt) (fun hh => absurd h hh)
theorem wl_ic_geF {x y : Int32} {off : Int} (C : LK p s m meth c b L xs G) (tgt : Nat) (hd : decode cL_law pc = .ok (.if_icmp .ge off, 3)) (ht : (pc : Int) + off = (tgt : Int)) (h : ¬ y.toInt ≤ x.toInt) (kf : WL p l e s m below meth c b G (pc + 3) lv st μ) : WL p l e s m below meth c b G pc lv (.int y :: .int x :: st) μ := wl_ic_ge C tgt hd ht (fun hh => absurd hh h) (fun _ => kf)
theorem wl_if_gt {x : Int32} {off : Int} (C : LK p s m meth c b L xs G) (tgt : Nat) (hd : decode cL_law pc = .ok (.ifCond .gt off, 3)) (ht : (pc : Int) + off = (tgt : Int)) (kt : 0 < x.toInt → WL p l e s m below meth c b G tgt lv st μ) (kf : ¬ 0 < x.toInt → WL p l e s m below meth c b G (pc + 3) lv st μ) : WL p l e s m below meth c b G pc lv (.int x :: st) μ :=
  fun H locs ls hP hS hl => lv_if_gt C.1.1 C.1.2.1 hd ht (fun hh => kt (by first | simpa only [Int32.lt_iff_toInt_lt, z32] using hh | simpa [Int32.lt_iff_toInt_lt, z32] using hh) H locs ls hP hS hl) (fun hh => kf (by first | simpa only [Int32.lt_iff_toInt_lt, z32] using hh | simpa [Int32.lt_iff_toInt_lt, z32] using hh) H locs ls hP hS hl)
theorem wl_if_gtT {x : Int32} {off : Int} (C : LK p s m meth c b L xs G) (tgt : Nat) (hd : decode cL_law pc = .ok (.ifCond .gt off, 3)) (ht : (pc : Int) + off = (tgt : Int)) (h : 0 < x.toInt) (kt : WL p l e s m below meth c b G tgt lv st μ) : WL p l e s m below meth c b G pc lv (.int x :: st) μ := wl_if_gt C tgt hd ht (fun _ => kt) (fun hh => absurd h hh)
theorem wl_if_gtF {x : Int32} {off : Int} (C : LK p s m meth c b L xs G) (tgt : Nat) (hd : decode cL_law pc = .ok (.ifCond .gt off, 3)) (ht : (pc : Int) + off = (tgt : Int)) (h : ¬ 0 < x.toInt) (kf : WL p l e s m below meth c b G (pc + 3) lv st μ) : WL p l e s m below meth c b G pc lv (.int x :: st) μ := wl_if_gt C tgt hd ht (fun hh => absurd hh h) (fun _ => kf)
theorem wl_ic_gt {x y : Int32} {off : Int} (C : LK p s m meth c b L xs G) (tgt : Nat) (hd : decode cL_law pc = .ok (.if_icmp .gt off, 3)) (ht : (pc : Int) + off = (tgt : Int)) (kt : y.toInt < x.toInt → WL p l e s m below meth c b G tgt lv st μ) (kf : ¬ y.toInt < x.toInt → WL p l e s m below meth c b G (pc + 3) lv st μ) : WL p l e s m below meth c b G pc lv (.int y :: .int x :: st) μ :=
  fun H locs ls hP hS hl => lv_icmp_gt C.1.1 C.1.2.1 hd ht (fun hh => kt (by first | simpa only [Int32.lt_iff_toInt_lt, z32] using hh | simpa [Int32.lt_iff_toInt_lt, z32] using hh) H locs ls hP hS hl) (fun hh => kf (by first | simpa only [Int32.lt_iff_toInt_lt, z32] using hh | simpa [Int32.lt_iff_toInt_lt, z32] using hh) H locs ls hP hS hl)
theorem wl_ic_gtT {x y : Int32} {off : Int} (C : LK p s m meth c b L xs G) (tgt : Nat) (hd : decode cL_law pc = .ok (.if_icmp .gt off, 3)) (ht : (pc : Int) + off = (tgt : Int)) (h : y.toInt < x.toInt) (kt : WL p l e s m below meth c b G tgt lv st μ) : WL p l e s m below meth c b G pc lv (.int y :: .int x :: st) μ := wl_ic_gt C tgt hd ht (fun _ => kt) (fun hh => absurd h hh)
theorem wl_ic_gtF {x y : Int32} {off : Int} (C : LK p s m meth c b L xs G) (tgt : Nat) (hd : decode cL_law pc = .ok (.if_icmp .gt off, 3)) (ht : (pc : Int) + off = (tgt : Int)) (h : ¬ y.toInt < x.toInt) (kf : WL p l e s m below meth c b G (pc + 3) lv st μ) : WL p l e s m below meth c b G pc lv (.int y :: .int x :: st) μ := wl_ic_gt C tgt hd ht (fun hh => absurd hh h) (fun _ => kf)
theorem wl_if_le {x : Int32} {off : Int} (C : LK p s m meth c b L xs G) (tgt : Nat) (hd : decode cL_law pc = .ok (.ifCond .le off, 3)) (ht : (pc : Int) + off = (tgt : Int)) (kt : x.toInt ≤ 0 → WL p l e s m below meth c b G tgt lv st μ) (kf : ¬ x.toInt ≤ 0 → WL p l e s m below meth c b G (pc + 3) lv st μ) : WL p l e s m below meth c b G pc lv (.int x :: st) μ :=
  fun H locs ls hP hS hl => lv_if_le C.1.1 C.1.2.1 hd ht (fun hh => kt (by first | simpa only [Int32.le_iff_toInt_le, z32] using hh | simpa [Int32.le_iff_toInt_le, z32] using hh) H locs ls hP hS hl) (fun hh => kf (by first | simpa only [Int32.le_iff_toInt_le, z32] using hh | simpa [Int32.le_iff_toInt_le, z32] using hh) H locs ls hP hS hl)
theorem wl_if_leT {x : Int32} {off : Int} (C : LK p s m meth c b L xs G) (tgt : Nat) (hd : decode cL_law pc = .ok (.ifCond .le off, 3)) (ht : (pc : Int) + off = (tgt : Int)) (h : x.toInt ≤ 0) (kt : WL p l e s m below meth c b G tgt lv st μ) : WL p l e s m below meth c b G pc lv (.int x :: st) μ := wl_if_le C tgt hd ht (fun _ => kt) (fun hh => absurd h hh)
theorem wl_if_leF {x : Int32} {off : Int} (C : LK p s m meth c b L xs G) (tgt : Nat) (hd : decode cL_law pc = .ok (.ifCond .le off, 3)) (ht : (pc : Int) + off = (tgt : Int)) (h : ¬ x.toInt ≤ 0) (kf : WL p l e s m below meth c b G (pc + 3) lv st μ) : WL p l e s m below meth c b G pc lv (.int x :: st) μ := wl_if_le C tgt hd ht (fun hh => absurd hh h) (fun _ => kf)
theorem wl_ic_le {x y : Int32} {off : Int} (C : LK p s m meth c b L xs G) (tgt : Nat) (hd : decode cL_law pc = .ok (.if_icmp .le off, 3)) (ht : (pc : Int) + off = (tgt : Int)) (kt : x.toInt ≤ y.toInt → WL p l e s m below meth c b G tgt lv st μ) (kf : ¬ x.toInt ≤ y.toInt → WL p l e s m below meth c b G (pc + 3) lv st μ) : WL p l e s m below meth c b G pc lv (.int y :: .int x :: st) μ :=
  fun H locs ls hP hS hl => lv_icmp_le C.1.1 C.1.2.1 hd ht (fun hh => kt (by first | simpa only [Int32.le_iff_toInt_le, z32] using hh | simpa [Int32.le_iff_toInt_le, z32] using hh) H locs ls hP hS hl) (fun hh => kf (by first | simpa only [Int32.le_iff_toInt_le, z32] using hh | simpa [Int32.le_iff_toInt_le, z32] using hh) H locs ls hP hS hl)
theorem wl_ic_leT {x y : Int32} {off : Int} (C : LK p s m meth c b L xs G) (tgt : Nat) (hd : decode cL_law pc = .ok (.if_icmp .le off, 3)) (ht : (pc : Int) + off = (tgt : Int)) (h : x.toInt ≤ y.toInt) (kt : WL p l e s m below meth c b G tgt lv st μ) : WL p l e s m below meth c b G pc lv (.int y :: .int x :: st) μ := wl_ic_le C tgt hd ht (fun _ => kt) (fun hh => absurd h hh)
theorem wl_ic_leF {x y : Int32} {off : Int} (C : LK p s m meth c b L xs G) (tgt : Nat) (hd : decode cL_law pc = .ok (.if_icmp .le off, 3)) (ht : (pc : Int) + off = (tgt : Int)) (h : ¬ x.toInt ≤ y.toInt) (kf : WL p l e s m below meth c b G (pc + 3) lv st μ) : WL p l e s m below meth c b G pc lv (.int y :: .int x :: st) μ := wl_ic_le C tgt hd ht (fun hh => absurd hh h) (fun _ => kf)
theorem wl_lcmp {x y : Int64} (C : LK p s m meth c b L xs G) (hd : decode cL_law pc = .ok (.lcmp, 1)) (kk : WL p l e s m below meth c b G (pc + 1) lv (.int (lg_cmp x y) :: st) μ) : WL p l e s m below meth c b G pc lv (.long y :: .long x :: st) μ :=
  fun H locs ls hP hS hl => W.lcmp C.1.1 C.1.2.1 hd (kk H locs ls hP hS hl)
theorem wl_lc_eq {x y : Int64} {off : Int} (C : LK p s m meth c b L xs G) (tgt : Nat) (hd : decode cL_law pc = .ok (.lcmp, 1)) (hd2 : decode cL_law (pc + 1) = .ok (.ifCond .eq off, 3)) (ht : ((pc + 1 : Nat) : Int) + off = (tgt : Int)) (kt : x.toInt = y.toInt → WL p l e s m below meth c b G tgt lv st μ) (kf : ¬ x.toInt = y.toInt → WL p l e s m below meth c b G (pc + 4) lv st μ) : WL p l e s m below meth c b G pc lv (.long y :: .long x :: st) μ :=
  wl_lcmp C hd (wl_if_eq C tgt hd2 ht (fun hh => kt (by rw [lgc_eq] at hh; exact hh)) (fun hh => kf (by rw [lgc_eq] at hh; exact hh)))
theorem wl_lc_eqT {x y : Int64} {off : Int} (C : LK p s m meth c b L xs G) (tgt : Nat) (hd : decode cL_law pc = .ok (.lcmp, 1)) (hd2 : decode cL_law (pc + 1) = .ok (.ifCond .eq off, 3)) (ht : ((pc + 1 : Nat) : Int) + off = (tgt : Int)) (h : x.toInt = y.toInt) (kt : WL p l e s m below meth c b G tgt lv st μ) : WL p l e s m below meth c b G pc lv (.long y :: .long x :: st) μ := wl_lc_eq C tgt hd hd2 ht (fun _ => kt) (fun hh => absurd h hh)
theorem wl_lc_eqF {x y : Int64} {off : Int} (C : LK p s m meth c b L xs G) (tgt : Nat) (hd : decode cL_law pc = .ok (.lcmp, 1)) (hd2 : decode cL_law (pc + 1) = .ok (.ifCond .eq off, 3)) (ht : ((pc + 1 : Nat) : Int) + off = (tgt : Int)) (h : ¬ x.toInt = y.toInt) (kf : WL p l e s m below meth c b G (pc + 4) lv st μ) : WL p l e s m below meth c b G pc lv (.long y :: .long x :: st) μ := wl_lc_eq C tgt hd hd2 ht (fun hh => absurd hh h) (fun _ => kf)
theorem wl_lc_ne {x y : Int64} {off : Int} (C : LK p s m meth c b L xs G) (tgt : Nat) (hd : decode cL_law pc = .ok (.lcmp, 1)) (hd2 : decode cL_law (pc + 1) = .ok (.ifCond .ne off, 3)) (ht : ((pc + 1 : Nat) : Int) + off = (tgt : Int)) (kt : ¬ x.toInt = y.toInt → WL p l e s m below meth c b G tgt lv st μ) (kf : ¬ ¬ x.toInt = y.toInt → WL p l e s m below meth c b G (pc + 4) lv st μ) : WL p l e s m below meth c b G pc lv (.long y :: .long x :: st) μ :=
  wl_lcmp C hd (wl_if_ne C tgt hd2 ht (fun hh => kt (by rw [lgc_eq] at hh; exact hh)) (fun hh => kf (by rw [lgc_eq] at hh; exact hh)))
theorem wl_lc_neT {x y : Int64} {off : Int} (C : LK p s m meth c b L xs G) (tgt : Nat) (hd : decode cL_law pc = .ok (.lcmp, 1)) (hd2 : decode cL_law (pc + 1) = .ok (.ifCond .ne off, 3)) (ht : ((pc + 1 : Nat) : Int) + off = (tgt : Int)) (h : ¬ x.toInt = y.toInt) (kt : WL p l e s m below meth c b G tgt lv st μ) : WL p l e s m below meth c b G pc lv (.long y :: .long x :: st) μ := wl_lc_ne C tgt hd hd2 ht (fun _ => kt) (fun hh => absurd h hh)
theorem wl_lc_neF {x y : Int64} {off : Int} (C : LK p s m meth c b L xs G) (tgt : Nat) (hd : decode cL_law pc = .ok (.lcmp, 1)) (hd2 : decode cL_law (pc + 1) = .ok (.ifCond .ne off, 3)) (ht : ((pc + 1 : Nat) : Int) + off = (tgt : Int)) (h : ¬ ¬ x.toInt = y.toInt) (kf : WL p l e s m below meth c b G (pc + 4) lv st μ) : WL p l e s m below meth c b G pc lv (.long y :: .long x :: st) μ := wl_lc_ne C tgt hd hd2 ht (fun hh => absurd hh h) (fun _ => kf)
theorem wl_lc_lt {x y : Int64} {off : Int} (C : LK p s m meth c b L xs G) (tgt : Nat) (hd : decode cL_law pc = .ok (.lcmp, 1)) (hd2 : decode cL_law (pc + 1) = .ok (.ifCond .lt off, 3)) (ht : ((pc + 1 : Nat) : Int) + off = (tgt : Int)) (kt : x.toInt < y.toInt → WL p l e s m below meth c b G tgt lv st μ) (kf : ¬ x.toInt < y.toInt → WL p l e s m below meth c b G (pc + 4) lv st μ) : WL p l e s m below meth c b G pc lv (.long y :: .long x :: st) μ :=
  wl_lcmp C hd (wl_if_lt C tgt hd2 ht (fun hh => kt (by rw [lgc_lt] at hh; exact hh)) (fun hh => kf (by rw [lgc_lt] at hh; exact hh)))
theorem wl_lc_ltT {x y : Int64} {off : Int} (C : LK p s m meth c b L xs G) (tgt : Nat) (hd : decode cL_law pc = .ok (.lcmp, 1)) (hd2 : decode cL_law (pc + 1) = .ok (.ifCond .lt off, 3)) (ht : ((pc + 1 : Nat) : Int) + off = (tgt : Int)) (h : x.toInt < y.toInt) (kt : WL p l e s m below meth c b G tgt lv st μ) : WL p l e s m below meth c b G pc lv (.long y :: .long x :: st) μ := wl_lc_lt C tgt hd hd2 ht (fun _ => kt) (fun hh => absurd h hh)
theorem wl_lc_ltF {x y : Int64} {off : Int} (C : LK p s m meth c b L xs G) (tgt : Nat) (hd : decode cL_law pc = .ok (.lcmp, 1)) (hd2 : decode cL_law (pc + 1) = .ok (.ifCond .lt off, 3)) (ht : ((pc + 1 : Nat) : Int) + off = (tgt : Int)) (h : ¬ x.toInt < y.toInt) (kf : WL p l e s m below meth c b G (pc + 4) lv st μ) : WL p l e s m below meth c b G pc lv (.long y :: .long x :: st) μ := wl_lc_lt C tgt hd hd2 ht (fun hh => absurd hh h) (fun _ => kf)
theorem wl_lc_ge {x y : Int64} {off : Int} (C : LK p s m meth c b L xs G) (tgt : Nat) (hd : decode cL_law pc = .ok (.lcmp, 1)) (hd2 : decode cL_law (pc + 1) = .ok (.ifCond .ge off, 3)) (ht : ((pc + 1 : Nat) : Int) + off = (tgt : Int)) (kt : y.toInt ≤ x.toInt → WL p l e s m below meth c b G tgt lv st μ) (kf : ¬ y.toInt ≤ x.toInt → WL p l e s m below meth c b G (pc + 4) lv st μ) : WL p l e s m below meth c b G pc lv (.long y :: .long x :: st) μ :=
  wl_lcmp C hd (wl_if_ge C tgt hd2 ht (fun hh => kt (by rw [lgc_ge] at hh; exact hh)) (fun hh => kf (by rw [lgc_ge] at hh; exact hh)))
theorem wl_lc_geT {x y : Int64} {off : Int} (C : LK p s m meth c b L xs G) (tgt : Nat) (hd : decode cL_law pc = .ok (.lcmp, 1)) (hd2 : decode cL_law (pc + 1) = .ok (.ifCond .ge off, 3)) (ht : ((pc + 1 : Nat) : Int) + off = (tgt : Int)) (h : y.toInt ≤ x.toInt) (kt : WL p l e s m below meth c b G tgt lv st μ) : WL p l e s m below meth c b G pc lv (.long y :: .long x :: st) μ := wl_lc_ge C tgt hd hd2 ht (fun _ => kt) (fun hh => absurd h hh)
theorem wl_lc_geF {x y : Int64} {off : Int} (C : LK p s m meth c b L xs G) (tgt : Nat) (hd : decode cL_law pc = .ok (.lcmp, 1)) (hd2 : decode cL_law (pc + 1) = .ok (.ifCond .ge off, 3)) (ht : ((pc + 1 : Nat) : Int) + off = (tgt : Int)) (h : ¬ y.toInt ≤ x.toInt) (kf : WL p l e s m below meth c b G (pc + 4) lv st μ) : WL p l e s m below meth c b G pc lv (.long y :: .long x :: st) μ := wl_lc_ge C tgt hd hd2 ht (fun hh => absurd hh h) (fun _ => kf)
theorem wl_lc_gt {x y : Int64} {off : Int} (C : LK p s m meth c b L xs G) (tgt : Nat) (hd : decode cL_law pc = .ok (.lcmp, 1)) (hd2 : decode cL_law (pc + 1) = .ok (.ifCond .gt off, 3)) (ht : ((pc + 1 : Nat) : Int) + off = (tgt : Int)) (kt : y.toInt < x.toInt → WL p l e s m below meth c b G tgt lv st μ) (kf : ¬ y.toInt < x.toInt → WL p l e s m below meth c b G (pc + 4) lv st μ) : WL p l e s m below meth c b G pc lv (.long y :: .long x :: st) μ :=
  wl_lcmp C hd (wl_if_gt C tgt hd2 ht (fun hh => kt (by rw [lgc_gt] at hh; exact hh)) (fun hh => kf (by rw [lgc_gt] at hh; exact hh)))
theorem wl_lc_gtT {x y : Int64} {off : Int} (C : LK p s m meth c b L xs G) (tgt : Nat) (hd : decode cL_law pc = .ok (.lcmp, 1)) (hd2 : decode cL_law (pc + 1) = .ok (.ifCond .gt off, 3)) (ht : ((pc + 1 : Nat) : Int) + off = (tgt : Int)) (h : y.toInt < x.toInt) (kt : WL p l e s m below meth c b G tgt lv st μ) : WL p l e s m below meth c b G pc lv (.long y :: .long x :: st) μ := wl_lc_gt C tgt hd hd2 ht (fun _ => kt) (fun hh => absurd h hh)
theorem wl_lc_gtF {x y : Int64} {off : Int} (C : LK p s m meth c b L xs G) (tgt : Nat) (hd : decode cL_law pc = .ok (.lcmp, 1)) (hd2 : decode cL_law (pc + 1) = .ok (.ifCond .gt off, 3)) (ht : ((pc + 1 : Nat) : Int) + off = (tgt : Int)) (h : ¬ y.toInt < x.toInt) (kf : WL p l e s m below meth c b G (pc + 4) lv st μ) : WL p l e s m below meth c b G pc lv (.long y :: .long x :: st) μ := wl_lc_gt C tgt hd hd2 ht (fun hh => absurd hh h) (fun _ => kf)
theorem wl_lc_le {x y : Int64} {off : Int} (C : LK p s m meth c b L xs G) (tgt : Nat) (hd : decode cL_law pc = .ok (.lcmp, 1)) (hd2 : decode cL_law (pc + 1) = .ok (.ifCond .le off, 3)) (ht : ((pc + 1 : Nat) : Int) + off = (tgt : Int)) (kt : x.toInt ≤ y.toInt → WL p l e s m below meth c b G tgt lv st μ) (kf : ¬ x.toInt ≤ y.toInt → WL p l e s m below meth c b G (pc + 4) lv st μ) : WL p l e s m below meth c b G pc lv (.long y :: .long x :: st) μ :=
  wl_lcmp C hd (wl_if_le C tgt hd2 ht (fun hh => kt (by rw [lgc_le] at hh; exact hh)) (fun hh => kf (by rw [lgc_le] at hh; exact hh)))
theorem wl_lc_leT {x y : Int64} {off : Int} (C : LK p s m meth c b L xs G) (tgt : Nat) (hd : decode cL_law pc = .ok (.lcmp, 1)) (hd2 : decode cL_law (pc + 1) = .ok (.ifCond .le off, 3)) (ht : ((pc + 1 : Nat) : Int) + off = (tgt : Int)) (h : x.toInt ≤ y.toInt) (kt : WL p l e s m below meth c b G tgt lv st μ) : WL p l e s m below meth c b G pc lv (.long y :: .long x :: st) μ := wl_lc_le C tgt hd hd2 ht (fun _ => kt) (fun hh => absurd h hh)
theorem wl_lc_leF {x y : Int64} {off : Int} (C : LK p s m meth c b L xs G) (tgt : Nat) (hd : decode cL_law pc = .ok (.lcmp, 1)) (hd2 : decode cL_law (pc + 1) = .ok (.ifCond .le off, 3)) (ht : ((pc + 1 : Nat) : Int) + off = (tgt : Int)) (h : ¬ x.toInt ≤ y.toInt) (kf : WL p l e s m below meth c b G (pc + 4) lv st μ) : WL p l e s m below meth c b G pc lv (.long y :: .long x :: st) μ := wl_lc_le C tgt hd hd2 ht (fun hh => absurd hh h) (fun _ => kf)
end LAW
