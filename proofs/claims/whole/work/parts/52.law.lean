/-! THE CLAIM OUT OF ONE WALK OF THE LAW'S BODY. Your part is whole_start (and what it stands on); all else here is the same for every law, but numbers. -/
def R_law : String := "WaveBuoysLaw"
def lw_P (b : Addr) (xs : List Int32) (args : Array Value) (s : State) : Prop := args = #[.ref b] ∧ s.IntsAt b xs ∧ xs.length ≤ 3072 ∧ (Jvm.Cond.and given_1 narrow_1).before args s = true
def lw_Q (_ : Array Value) (s : State) (o : Outcome) (t : State) : Prop := o = .returned (some (.int 1)) ∧ Framed s o t [] 600000 7302250
def lw_Z (below : List Frame) (a : Array Value) (s : State) : State → Prop := fun t => ∃ o, t.status = .running ∧ Ended t below o ∧ lw_Q a s o t
/-- the law's own end, with 1 on the stack, nothing written that was there before, its room as the claim has it -/
theorem lw_ret {p : Program} {l : Launch} {e : Env} {s : State} {m : MethodId} {below : List Frame} {meth : Method} {c : Code} {b : Nat} (hx : p.tables.exec = Jvm.exec) (hb : c.code = code) (hr : meth.sig.returnType = ret) (hlocks : meth.locks = false) {pc : Nat} {H : Heap} {ls : Array Slot} (hdg : decode code pc = .ok (.ireturn, 1)) : W p l e room_1 s m #[Value.ref b] below meth c H [] 600000 7302250 (lw_Z below #[Value.ref b] s) (F0 m pc ls [.int 1]) := by
  intro T hT X
  obtain ⟨fs, hret, hrun, hended, hW, hframe⟩ := X.leave (v := some (.int 1)) (hlocks := hlocks) (fun h => by rw [hr] at h; cases h)
  have hmeth' : T.vm.method? m = some meth := X.method'
  refine ⟨T.setFrames fs, ?_, .returned (some (.int 1)), hrun, hended, rfl, ⟨_, rfl⟩, hW, hframe⟩
  jvm_step X.here [X.here.top, hx, hb, hdg, hmeth', hr, ret, narrow_b1]
  (try refine ⟨rfl, ?_⟩); (try refine ⟨rfl, ?_⟩)
  first | (intro acts; rw [hret _ acts rfl rfl rfl]) | rw [hret _ _ rfl rfl rfl]
  exact Steps.refl _
/-- what holds at the law's entry: the machine, the code, the tables' words (any of lw_tbl by 'hts w (by decide +kernel)'), the script of L ints xs at the cell b, what the Statement gives of the start (any of its parts by flat_of_before) -/
def lw_At (p : Program) (s : State) (m : MethodId) (meth : Method) (c : Code) (b L : Nat) (xs : Nat → Int32) : Prop :=
  p.tables.exec = Jvm.exec ∧ c.code = code ∧ meth.sig.returnType = ret ∧ c.maxLocals = 4 ∧ s.vm.findClass R_law = some m.cls ∧ (∀ w ∈ lw_tbl, w.before #[Value.ref b] s = true) ∧ va_X b L xs s s.heap ∧ b < s.heap.size ∧ meth.locks = false ∧ (Jvm.Cond.and given_1 narrow_1).before #[Value.ref b] s = true
theorem aoX3 : Cond.arrayOver (.object RX3) ∈ lw_tbl := List.mem_of_getElem? (i := 51) (by decide +kernel)
theorem ntX5_15 : Cond.methodLinkNest RX5 15 yX3_init RX5 ∈ lw_tbl := List.mem_of_getElem? (i := 53) (by decide +kernel)
theorem aoX2 : Cond.arrayOver (.object RX2) ∈ lw_tbl := List.mem_of_getElem? (i := 79) (by decide +kernel)
theorem ntX5_22 : Cond.methodLinkNest RX5 22 yX2_init RX5 ∈ lw_tbl := List.mem_of_getElem? (i := 81) (by decide +kernel)
theorem ntX5_25 : Cond.methodLinkNest RX5 25 yX1_init RX5 ∈ lw_tbl := List.mem_of_getElem? (i := 104) (by decide +kernel)
theorem ntX1_9 : Cond.methodLinkNest RX1 9 yX3_init RX5 ∈ lw_tbl := List.mem_of_getElem? (i := 109) (by decide +kernel)
theorem ntX5_32 : Cond.methodLinkNest RX5 32 yX4_init RX5 ∈ lw_tbl := List.mem_of_getElem? (i := 119) (by decide +kernel)
theorem ntX5_39 : Cond.methodLinkNest RX5 39 yX0_init RX5 ∈ lw_tbl := List.mem_of_getElem? (i := 147) (by decide +kernel)
theorem ntX2_79 : Cond.methodLinkNest RX2 79 yX5_isWithin RX5 ∈ lw_tbl := List.mem_of_getElem? (i := 406) (by decide +kernel)
theorem wT_tbl {w : Cond} (h : w ∈ wT) : w ∈ lw_tbl := (List.mem_filter.mp h).1
section LAW
variable {p : Program} {l : Launch} {e : Env} {s : State} {m : MethodId} {below : List Frame} {meth : Method} {c : Code} {b L : Nat} {xs : Nat → Int32} {G : WG}
/-- what holds all through the law, once both objects are made -/
def LK (p : Program) (s : State) (m : MethodId) (meth : Method) (c : Code) (b L : Nat) (xs : Nat → Int32) (G : WG) : Prop := lw_At p s m meth c b L xs ∧ L ≤ 3072 ∧ wD G ∧ wK G s ∧ ∀ t, t < 86 → s.heap.size ≤ G.2.1 t
/-- inside the law, at pc, its counter i, with stack st, in memory μ: it comes to its end with true -/
def LWp (p : Program) (l : Launch) (e : Env) (s : State) (m : MethodId) (below : List Frame) (meth : Method) (c : Code) (b : Nat) (G : WG) (pc : Nat) (i : Int32) (st : List Value) (μ : Mem) : Prop := ∀ (H : Heap) (locs : List Loc) (ls : Array Slot), wP G μ H → va_S (fun q : Nat => s.heap.size ≤ q) s.heap H locs → lv_has ls 4 [(0, .ref b), (1, .ref (G.2.1 0)), (2, .ref (G.2.1 73)), (3, .int i)] → W p l e room_1 s m #[Value.ref b] below meth c H locs 100 8000 (lw_Z below #[Value.ref b] s) (F0 m pc ls st)
variable {pc : Nat} {i : Int32} {st : List Value} {μ : Mem}
theorem wl_x (C : LK p s m meth c b L xs G) (hd : decode code pc = .ok (.aload_n 1, 1)) (kk : LWp p l e s m below meth c b G (pc + 1) i (.ref (G.2.1 0) :: st) μ) : LWp p l e s m below meth c b G pc i st μ :=
  fun H locs ls hP hS hl => lv_aload_n C.1.1 C.1.2.1 hd rfl (lv_at hl 1 rfl) (kk H locs ls hP hS hl)
theorem wl_m (C : LK p s m meth c b L xs G) (hd : decode code pc = .ok (.aload_n 2, 1)) (kk : LWp p l e s m below meth c b G (pc + 1) i (.ref (G.2.1 73) :: st) μ) : LWp p l e s m below meth c b G pc i st μ :=
  fun H locs ls hP hS hl => lv_aload_n C.1.1 C.1.2.1 hd rfl (lv_at hl 2 rfl) (kk H locs ls hP hS hl)
theorem lk_b (C : LK p s m meth c b L xs G) : ¬ (fun q : Nat => s.heap.size ≤ q) b := Nat.not_le.mpr C.1.2.2.2.2.2.2.2.1
/-- an int of the script -/
theorem wl_arg {j : Nat} (k : Nat) (C : LK p s m meth c b L xs G) (h0 : decode code pc = .ok (.aload_n 0, 1)) (h1 : decode code (pc + 1) = .ok (.iload_n 3, 1)) (h2 : decode code (pc + 1 + 1) = .ok (.iconst (k : Int), 1)) (h3 : decode code (pc + 1 + 1 + 1) = .ok (.iadd, 1)) (h4 : decode code (pc + 1 + 1 + 1 + 1) = .ok (.iaload, 1)) (hk : Int32.ofInt (k : Int) = nI k) (hi : i = nI j) (hj : j + k < L) (kk : LWp p l e s m below meth c b G (pc + 1 + 1 + 1 + 1 + 1) i (.int (xs (j + k)) :: st) μ) : LWp p l e s m below meth c b G pc i st μ := by
  intro H locs ls hP hS hl
  have hL := C.2.1
  subst hi
  refine lv_aload_n C.1.1 C.1.2.1 h0 rfl (lv_at hl 0 rfl) ?_
  refine lv_iload_n C.1.1 C.1.2.1 h1 rfl (lv_at hl 3 rfl) ?_
  refine lv_iconst (v := nI k) C.1.1 C.1.2.1 h2 hk ?_
  refine lv_iadd C.1.1 C.1.2.1 h3 ?_
  rw [nI_add]
  refine va_sld C.1.1 C.1.2.1 C.1.2.2.2.2.2.2.1 C.1.2.2.2.2.2.2.2.1 (lk_b C) hS (vp_in_nI hj (by omega)) h4 ?_
  rw [nI_clamp (by omega)]
  exact kk H locs ls hP hS hl
theorem wl_i2l {x : Int32} (C : LK p s m meth c b L xs G) (hd : decode code pc = .ok (.i2l, 1)) (kk : LWp p l e s m below meth c b G (pc + 1) i (.long x.toInt64 :: st) μ) : LWp p l e s m below meth c b G pc i (.int x :: st) μ :=
  fun H locs ls hP hS hl => lv_i2l C.1.1 C.1.2.1 hd rfl (kk H locs ls hP hS hl)
theorem wl_bipush {n : Int} (v : Int32) (C : LK p s m meth c b L xs G) (hd : decode code pc = .ok (.bipush n, 2)) (hv : (Int8.ofInt n).toInt32 = v) (kk : LWp p l e s m below meth c b G (pc + 2) i (.int v :: st) μ) : LWp p l e s m below meth c b G pc i st μ :=
  fun H locs ls hP hS hl => lv_bipush C.1.1 C.1.2.1 hd hv (kk H locs ls hP hS hl)
theorem wl_lshl {x : Int64} {y : Int32} (C : LK p s m meth c b L xs G) (hd : decode code pc = .ok (.lshl, 1)) (kk : LWp p l e s m below meth c b G (pc + 1) i (.long (x <<< (y.toInt64 &&& 63)) :: st) μ) : LWp p l e s m below meth c b G pc i (.int y :: .long x :: st) μ :=
  fun H locs ls hP hS hl => lv_lshl C.1.1 C.1.2.1 hd rfl (kk H locs ls hP hS hl)
theorem wl_land {x y : Int64} (C : LK p s m meth c b L xs G) (hd : decode code pc = .ok (.land, 1)) (kk : LWp p l e s m below meth c b G (pc + 1) i (.long (x &&& y) :: st) μ) : LWp p l e s m below meth c b G pc i (.long y :: .long x :: st) μ :=
  fun H locs ls hP hS hl => lv_land C.1.1 C.1.2.1 hd (kk H locs ls hP hS hl)
theorem wl_lor {x y : Int64} (C : LK p s m meth c b L xs G) (hd : decode code pc = .ok (.lor, 1)) (kk : LWp p l e s m below meth c b G (pc + 1) i (.long (x ||| y) :: st) μ) : LWp p l e s m below meth c b G pc i (.long y :: .long x :: st) μ :=
  fun H locs ls hP hS hl => lv_lor C.1.1 C.1.2.1 hd (kk H locs ls hP hS hl)
theorem wl_ldc2 {index : Nat} (v : Int64) (C : LK p s m meth c b L xs G) (hd : decode code pc = .ok (.ldc2_w index, 3)) (hw : Cond.constantLong RL index v ∈ wT) (kk : LWp p l e s m below meth c b G (pc + 3) i (.long v :: st) μ) : LWp p l e s m below meth c b G pc i st μ :=
  fun H locs ls hP hS hl => lv_ldc2 (own := RL) C.1.1 C.1.2.1 C.1.2.2.2.2.1 (C.1.2.2.2.2.2.1 _ (wT_tbl hw)) hd (kk H locs ls hP hS hl)
/-- a call of one of the two -/
theorem wl_call {k' : MK} {t ci n idx : Nat} {as : List Value} {rest : List Value} {sl : List Value} {stk : List Value} {Q' : QM} (C : LK p s m meth c b L xs G) (hd : decode code pc = .ok (.invokevirtual idx, 3)) (hlink : Cond.methodLink RL idx k'.1 ∈ wT) (hk : lkV k' n) (hsh : shp t = .inr (ci, sl)) (hcl : (vwCl[ci]?).map (fun q => q.1) = some k'.1.cls) (hml : k'.2.2.1 ≤ 21) (hst : stk = (as.map (trV G)).reverse ++ .ref (G.2.1 t) :: rest) (hlen : as.length = n) (hcat : (rest.map fun v => v.category).sum ≤ 8) (hM : MW k' 5 (.ref t :: as) μ Q') (kk : ∀ r μ', Q' r μ' → rOk k'.2.2.2 r → LWp p l e s m below meth c b G (pc + 3) i ((r.map (trV G)).toList ++ rest) μ') : LWp p l e s m below meth c b G pc i stk μ := by
  intro H locs ls hP hS hl
  obtain ⟨⟨h1, h2, h3, h4, h5⟩, h6, h7⟩ := hk
  have hts := C.1.2.2.2.2.2.1
  have hK := C.2.2.2.1
  subst hst
  have hG : GoodIn lw_tbl (wsV RL idx k'.1.cls k'.1 (wsM k')) := good_app (fun w hw => by
    simp only [List.mem_cons, List.not_mem_nil, or_false] at hw
    rcases hw with rfl | rfl | rfl | rfl <;> assumption) (fun w h => wT_tbl h) (by
    intro w hw
    rcases List.mem_cons.mp hw with rfl | hw
    · exact ⟨wT_tbl h2, wT_good h2⟩
    · exact ⟨wT_tbl hw, wT_good hw⟩)
  obtain ⟨qc, hqc, hqn⟩ : ∃ qc : vw_C, vwCl[ci]? = some qc ∧ qc.1 = k'.1.cls := by
    cases hv : vwCl[ci]? with
    | none => rw [hv] at hcl; cases hcl
    | some qc => rw [hv] at hcl; exact ⟨qc, rfl, Option.some.inj hcl⟩
  have hrun := va_runV (l := l) (e := e) (below := below) (meth := meth) (locs := locs) (cells := 100) (slots := 8000) (R := room_1) (ret := k'.2.2.2) (As := as.map (trV G)) (rest := rest) (g := F0 m pc ls ((as.map (trV G)).reverse ++ .ref (G.2.1 t) :: rest)) (b := G.2.1 t) ⟨C.1.1, C.1.2.1, C.1.2.2.2.1, C.1.2.2.2.2.1, hts⟩ (hM l G H.size C.2.2.1)
    (cwV n hts hG rfl rfl rfl ⟨rfl, h3, h4, h5⟩ ⟨Nat.le_of_ble_eq_true rfl, by show 8 + (k'.2.2.1 + 11) + 40 * 5 ≤ 260; omega⟩)
    ⟨blind_pc, by have := va_recv hK.1 hP hqc (ws_r hsh); rw [hqn] at this; exact this, fun U hU hW => ⟨rfl, by rw [hU], by rw [hU]; exact hP, hK.warm hW⟩⟩
    rfl (by rw [List.length_map]; exact hlen) hl.1 rfl (lv_room hcat) hd ⟨Nat.le_of_ble_eq_true rfl, Nat.le_of_ble_eq_true rfl⟩
  intro T hT X
  obtain ⟨v, st₀, t', T', L', h0, X', hL', e1, e2, ⟨⟨r, μ', hv, ⟨hq, hrt⟩, hp⟩, hz, hk⟩, stp⟩ := hrun T hT X
  cases hv
  rw [h0] at hz hk
  have hm : ∀ q, wA G H.size q → s.heap.size ≤ q := fun q h => by
    rcases h with ⟨t0, ht0, rfl⟩ | h
    · exact C.2.2.2.2 t0 ht0
    · exact Nat.le_trans hS.1 h
  obtain ⟨t2, a1, b1⟩ := kk r μ' hq hrt T'.heap (locs ++ L') ls (by rw [e1]; exact hp)
    ⟨Nat.le_trans hS.1 (by rw [e1]; exact hz), fun q h1 h2 => by rw [e1, hk q (Nat.lt_of_lt_of_le h1 hS.1) (fun z => h2 (hm q z))]; exact hS.2.1 q h1 h2, fun q hq => by
      rcases List.mem_append.mp hq with h | h
      · exact hS.2.2 q h
      · exact hm _ (hL' q h)⟩ hl T' rfl X'
  exact ⟨t2, stp t2 a1, b1⟩
theorem wl_eqI {x : Int32} {off : Int} (tgt : Nat) (C : LK p s m meth c b L xs G) (hd : decode code pc = .ok (.if_icmp .eq off, 3)) (ht : (pc : Int) + off = (tgt : Int)) (kk : LWp p l e s m below meth c b G tgt i st μ) : LWp p l e s m below meth c b G pc i (.int x :: .int x :: st) μ :=
  fun H locs ls hP hS hl => lv_icmp_eq C.1.1 C.1.2.1 hd ht (fun _ => kk H locs ls hP hS hl) (fun q => absurd rfl q)
theorem lg_self (x : Int64) : lg_cmp x x = 0 := by
  unfold lg_cmp
  rw [if_neg (by rw [gt_iff_lt, Int64.lt_iff_toInt_lt]; omega), if_pos rfl]
theorem wl_eqL {x : Int64} {off : Int} (tgt : Nat) (C : LK p s m meth c b L xs G) (hd : decode code pc = .ok (.lcmp, 1)) (hd2 : decode code (pc + 1) = .ok (.ifCond .eq off, 3)) (ht : ((pc + 1 : Nat) : Int) + off = (tgt : Int)) (kk : LWp p l e s m below meth c b G tgt i st μ) : LWp p l e s m below meth c b G pc i (.long x :: .long x :: st) μ :=
  fun H locs ls hP hS hl => W.lcmp C.1.1 C.1.2.1 hd (by
    rw [lg_self]
    exact lv_if_eq C.1.1 C.1.2.1 hd2 ht (fun _ => kk H locs ls hP hS hl) (fun q => absurd rfl q))
theorem wl_sheet {j N : Nat} (C : LK p s m meth c b L xs G) (hi : i = nI j) (hj : j + 6 ≤ L) (hN : N ≤ 512) (hrel : Rel N μ) (K : ∀ μ2, Rel (N + 1) μ2 → LWp p l e s m below meth c b G 1302 i [] μ2) : LWp p l e s m below meth c b G 172 i [] μ := by
  refine wl_x C dL_law_172 ?_
  refine wl_arg 1 C dL_law_173 dL_law_174 dL_law_175 dL_law_176 dL_law_177 (by decide) hi (by omega) ?_
  refine wl_arg 2 C dL_law_178 dL_law_179 dL_law_180 dL_law_181 dL_law_182 (by decide) hi (by omega) ?_
  refine wl_arg 3 C dL_law_183 dL_law_184 dL_law_185 dL_law_186 dL_law_187 (by decide) hi (by omega) ?_
  refine wl_call (t := 0) (as := [.int _, .int _, .int _]) C dL_law_188 lmL_13 kvX5_sheet rfl rfl (by decide) rfl rfl (Nat.le_of_ble_eq_true rfl) (pr_sheet _ _ _ N μ 5 5 (Nat.le_refl 5) (Nat.le_refl 5) hN hrel) (fun r μ1 hM hr => ?_)
  obtain ⟨v, rfl⟩ := hr
  refine wl_m C dL_law_191 ?_
  refine wl_arg 1 C dL_law_192 dL_law_193 dL_law_194 dL_law_195 dL_law_196 (by decide) hi (by omega) ?_
  refine wl_arg 2 C dL_law_197 dL_law_198 dL_law_199 dL_law_200 dL_law_201 (by decide) hi (by omega) ?_
  refine wl_arg 3 C dL_law_202 dL_law_203 dL_law_204 dL_law_205 dL_law_206 (by decide) hi (by omega) ?_
  refine wl_call (t := 73) (as := [.int _, .int _, .int _]) (rest := [.int v]) C dL_law_207 lmL_17 kvX6_sheet rfl rfl (by decide) rfl rfl (Nat.le_of_ble_eq_true rfl) hM (fun q μ2 hq hr => ?_)
  obtain ⟨rfl, hrel2⟩ := hq
  refine wl_eqI 1302 C dL_law_210 (by decide) ?_
  exact K μ2 hrel2
theorem wl_drop {j N : Nat} (C : LK p s m meth c b L xs G) (hi : i = nI j) (hj : j + 6 ≤ L) (hN : N ≤ 512) (hrel : Rel N μ) (K : ∀ μ2, Rel (N + 1) μ2 → LWp p l e s m below meth c b G 1302 i [] μ2) : LWp p l e s m below meth c b G 215 i [] μ := by
  refine wl_x C dL_law_215 ?_
  refine wl_arg 1 C dL_law_216 dL_law_217 dL_law_218 dL_law_219 dL_law_220 (by decide) hi (by omega) ?_
  refine wl_call (t := 0) (as := [.int _]) C dL_law_221 lmL_18 kvX5_drop rfl rfl (by decide) rfl rfl (Nat.le_of_ble_eq_true rfl) (pr_drop _ N μ 5 5 (Nat.le_refl 5) (Nat.le_refl 5) hN hrel) (fun r μ1 hM hr => ?_)
  obtain ⟨v, rfl⟩ := hr
  refine wl_m C dL_law_224 ?_
  refine wl_arg 1 C dL_law_225 dL_law_226 dL_law_227 dL_law_228 dL_law_229 (by decide) hi (by omega) ?_
  refine wl_call (t := 73) (as := [.int _]) (rest := [.int v]) C dL_law_230 lmL_22 kvX6_drop rfl rfl (by decide) rfl rfl (Nat.le_of_ble_eq_true rfl) hM (fun q μ2 hq hr => ?_)
  obtain ⟨rfl, hrel2⟩ := hq
  refine wl_eqI 1302 C dL_law_233 (by decide) ?_
  exact K μ2 hrel2
theorem wl_put {j N : Nat} (C : LK p s m meth c b L xs G) (hi : i = nI j) (hj : j + 6 ≤ L) (hN : N ≤ 512) (hrel : Rel N μ) (K : ∀ μ2, Rel (N + 1) μ2 → LWp p l e s m below meth c b G 1302 i [] μ2) : LWp p l e s m below meth c b G 238 i [] μ := by
  refine wl_x C dL_law_238 ?_
  refine wl_arg 1 C dL_law_239 dL_law_240 dL_law_241 dL_law_242 dL_law_243 (by decide) hi (by omega) ?_
  refine wl_arg 2 C dL_law_244 dL_law_245 dL_law_246 dL_law_247 dL_law_248 (by decide) hi (by omega) ?_
  refine wl_arg 3 C dL_law_249 dL_law_250 dL_law_251 dL_law_252 dL_law_253 (by decide) hi (by omega) ?_
  refine wl_call (t := 0) (as := [.int _, .int _, .int _]) C dL_law_254 lmL_23 kvX5_put rfl rfl (by decide) rfl rfl (Nat.le_of_ble_eq_true rfl) (pr_put _ _ _ N μ 5 5 (Nat.le_refl 5) (Nat.le_refl 5) hN hrel) (fun r μ1 hM hr => ?_)
  obtain ⟨v, rfl⟩ := hr
  refine wl_m C dL_law_257 ?_
  refine wl_arg 1 C dL_law_258 dL_law_259 dL_law_260 dL_law_261 dL_law_262 (by decide) hi (by omega) ?_
  refine wl_arg 2 C dL_law_263 dL_law_264 dL_law_265 dL_law_266 dL_law_267 (by decide) hi (by omega) ?_
  refine wl_arg 3 C dL_law_268 dL_law_269 dL_law_270 dL_law_271 dL_law_272 (by decide) hi (by omega) ?_
  refine wl_call (t := 73) (as := [.int _, .int _, .int _]) (rest := [.int v]) C dL_law_273 lmL_26 kvX6_put rfl rfl (by decide) rfl rfl (Nat.le_of_ble_eq_true rfl) hM (fun q μ2 hq hr => ?_)
  obtain ⟨rfl, hrel2⟩ := hq
  refine wl_eqI 1302 C dL_law_276 (by decide) ?_
  exact K μ2 hrel2
theorem wl_get {j N : Nat} (C : LK p s m meth c b L xs G) (hi : i = nI j) (hj : j + 6 ≤ L) (hN : N ≤ 512) (hrel : Rel N μ) (K : ∀ μ2, Rel (N + 1) μ2 → LWp p l e s m below meth c b G 1302 i [] μ2) : LWp p l e s m below meth c b G 281 i [] μ := by
  refine wl_x C dL_law_281 ?_
  refine wl_arg 1 C dL_law_282 dL_law_283 dL_law_284 dL_law_285 dL_law_286 (by decide) hi (by omega) ?_
  refine wl_arg 2 C dL_law_287 dL_law_288 dL_law_289 dL_law_290 dL_law_291 (by decide) hi (by omega) ?_
  refine wl_call (t := 0) (as := [.int _, .int _]) C dL_law_292 lmL_27 kvX5_get rfl rfl (by decide) rfl rfl (Nat.le_of_ble_eq_true rfl) (pr_get _ _ N μ 5 5 (Nat.le_refl 5) (Nat.le_refl 5) hN hrel) (fun r μ1 hM hr => ?_)
  obtain ⟨v, rfl⟩ := hr
  refine wl_m C dL_law_295 ?_
  refine wl_arg 1 C dL_law_296 dL_law_297 dL_law_298 dL_law_299 dL_law_300 (by decide) hi (by omega) ?_
  refine wl_arg 2 C dL_law_301 dL_law_302 dL_law_303 dL_law_304 dL_law_305 (by decide) hi (by omega) ?_
  refine wl_call (t := 73) (as := [.int _, .int _]) (rest := [.long v]) C dL_law_306 lmL_31 kvX6_get rfl rfl (by decide) rfl rfl (Nat.le_of_ble_eq_true rfl) hM (fun q μ2 hq hr => ?_)
  obtain ⟨rfl, hrel2⟩ := hq
  refine wl_eqL 1302 C dL_law_309 dL_law_310 (by decide) ?_
  exact K μ2 hrel2
theorem wl_lose {j N : Nat} (C : LK p s m meth c b L xs G) (hi : i = nI j) (hj : j + 6 ≤ L) (hN : N ≤ 512) (hrel : Rel N μ) (K : ∀ μ2, Rel (N + 1) μ2 → LWp p l e s m below meth c b G 1302 i [] μ2) : LWp p l e s m below meth c b G 315 i [] μ := by
  refine wl_x C dL_law_315 ?_
  refine wl_arg 1 C dL_law_316 dL_law_317 dL_law_318 dL_law_319 dL_law_320 (by decide) hi (by omega) ?_
  refine wl_arg 2 C dL_law_321 dL_law_322 dL_law_323 dL_law_324 dL_law_325 (by decide) hi (by omega) ?_
  refine wl_call (t := 0) (as := [.int _, .int _]) C dL_law_326 lmL_32 kvX5_lose rfl rfl (by decide) rfl rfl (Nat.le_of_ble_eq_true rfl) (pr_lose _ _ N μ 5 5 (Nat.le_refl 5) (Nat.le_refl 5) hN hrel) (fun r μ1 hM hr => ?_)
  obtain ⟨v, rfl⟩ := hr
  refine wl_m C dL_law_329 ?_
  refine wl_arg 1 C dL_law_330 dL_law_331 dL_law_332 dL_law_333 dL_law_334 (by decide) hi (by omega) ?_
  refine wl_arg 2 C dL_law_335 dL_law_336 dL_law_337 dL_law_338 dL_law_339 (by decide) hi (by omega) ?_
  refine wl_call (t := 73) (as := [.int _, .int _]) (rest := [.int v]) C dL_law_340 lmL_36 kvX6_lose rfl rfl (by decide) rfl rfl (Nat.le_of_ble_eq_true rfl) hM (fun q μ2 hq hr => ?_)
  obtain ⟨rfl, hrel2⟩ := hq
  refine wl_eqI 1302 C dL_law_343 (by decide) ?_
  exact K μ2 hrel2
theorem wl_stands {j N : Nat} (C : LK p s m meth c b L xs G) (hi : i = nI j) (hj : j + 6 ≤ L) (hN : N ≤ 512) (hrel : Rel N μ) (K : ∀ μ2, Rel (N + 1) μ2 → LWp p l e s m below meth c b G 1302 i [] μ2) : LWp p l e s m below meth c b G 348 i [] μ := by
  refine wl_x C dL_law_348 ?_
  refine wl_arg 1 C dL_law_349 dL_law_350 dL_law_351 dL_law_352 dL_law_353 (by decide) hi (by omega) ?_
  refine wl_arg 2 C dL_law_354 dL_law_355 dL_law_356 dL_law_357 dL_law_358 (by decide) hi (by omega) ?_
  refine wl_call (t := 0) (as := [.int _, .int _]) C dL_law_359 lmL_37 kvX5_stands rfl rfl (by decide) rfl rfl (Nat.le_of_ble_eq_true rfl) (pr_stands _ _ N μ 5 5 (Nat.le_refl 5) (Nat.le_refl 5) hN hrel) (fun r μ1 hM hr => ?_)
  obtain ⟨v, rfl⟩ := hr
  refine wl_m C dL_law_362 ?_
  refine wl_arg 1 C dL_law_363 dL_law_364 dL_law_365 dL_law_366 dL_law_367 (by decide) hi (by omega) ?_
  refine wl_arg 2 C dL_law_368 dL_law_369 dL_law_370 dL_law_371 dL_law_372 (by decide) hi (by omega) ?_
  refine wl_call (t := 73) (as := [.int _, .int _]) (rest := [.int v]) C dL_law_373 lmL_40 kvX6_stands rfl rfl (by decide) rfl rfl (Nat.le_of_ble_eq_true rfl) hM (fun q μ2 hq hr => ?_)
  obtain ⟨rfl, hrel2⟩ := hq
  refine wl_eqI 1302 C dL_law_376 (by decide) ?_
  exact K μ2 hrel2
theorem wl_copy {j N : Nat} (C : LK p s m meth c b L xs G) (hi : i = nI j) (hj : j + 6 ≤ L) (hN : N ≤ 512) (hrel : Rel N μ) (K : ∀ μ2, Rel (N + 1) μ2 → LWp p l e s m below meth c b G 1302 i [] μ2) : LWp p l e s m below meth c b G 381 i [] μ := by
  refine wl_x C dL_law_381 ?_
  refine wl_arg 1 C dL_law_382 dL_law_383 dL_law_384 dL_law_385 dL_law_386 (by decide) hi (by omega) ?_
  refine wl_arg 2 C dL_law_387 dL_law_388 dL_law_389 dL_law_390 dL_law_391 (by decide) hi (by omega) ?_
  refine wl_arg 3 C dL_law_392 dL_law_393 dL_law_394 dL_law_395 dL_law_396 (by decide) hi (by omega) ?_
  refine wl_arg 4 C dL_law_397 dL_law_398 dL_law_399 dL_law_400 dL_law_401 (by decide) hi (by omega) ?_
  refine wl_arg 5 C dL_law_402 dL_law_403 dL_law_404 dL_law_405 dL_law_406 (by decide) hi (by omega) ?_
  refine wl_call (t := 0) (as := [.int _, .int _, .int _, .int _, .int _]) C dL_law_407 lmL_41 kvX5_copy rfl rfl (by decide) rfl rfl (Nat.le_of_ble_eq_true rfl) (pr_copy _ _ _ _ _ N μ 5 5 (Nat.le_refl 5) (Nat.le_refl 5) hN hrel) (fun r μ1 hM hr => ?_)
  obtain ⟨v, rfl⟩ := hr
  refine wl_m C dL_law_410 ?_
  refine wl_arg 1 C dL_law_411 dL_law_412 dL_law_413 dL_law_414 dL_law_415 (by decide) hi (by omega) ?_
  refine wl_arg 2 C dL_law_416 dL_law_417 dL_law_418 dL_law_419 dL_law_420 (by decide) hi (by omega) ?_
  refine wl_arg 3 C dL_law_421 dL_law_422 dL_law_423 dL_law_424 dL_law_425 (by decide) hi (by omega) ?_
  refine wl_arg 4 C dL_law_426 dL_law_427 dL_law_428 dL_law_429 dL_law_430 (by decide) hi (by omega) ?_
  refine wl_arg 5 C dL_law_431 dL_law_432 dL_law_433 dL_law_434 dL_law_435 (by decide) hi (by omega) ?_
  refine wl_call (t := 73) (as := [.int _, .int _, .int _, .int _, .int _]) (rest := [.int v]) C dL_law_436 lmL_45 kvX6_copy rfl rfl (by decide) rfl rfl (Nat.le_of_ble_eq_true rfl) hM (fun q μ2 hq hr => ?_)
  obtain ⟨rfl, hrel2⟩ := hq
  refine wl_eqI 1302 C dL_law_439 (by decide) ?_
  exact K μ2 hrel2
theorem wl_spikes {j N : Nat} (C : LK p s m meth c b L xs G) (hi : i = nI j) (hj : j + 6 ≤ L) (hN : N ≤ 512) (hrel : Rel N μ) (K : ∀ μ2, Rel (N + 1) μ2 → LWp p l e s m below meth c b G 1302 i [] μ2) : LWp p l e s m below meth c b G 444 i [] μ := by
  refine wl_x C dL_law_444 ?_
  refine wl_arg 1 C dL_law_445 dL_law_446 dL_law_447 dL_law_448 dL_law_449 (by decide) hi (by omega) ?_
  refine wl_arg 2 C dL_law_450 dL_law_451 dL_law_452 dL_law_453 dL_law_454 (by decide) hi (by omega) ?_
  refine wl_call (t := 0) (as := [.int _, .int _]) C dL_law_455 lmL_46 kvX5_spikes rfl rfl (by decide) rfl rfl (Nat.le_of_ble_eq_true rfl) (pr_spikes _ _ N μ 5 5 (Nat.le_refl 5) (Nat.le_refl 5) hN hrel) (fun r μ1 hM hr => ?_)
  obtain ⟨v, rfl⟩ := hr
  refine wl_m C dL_law_458 ?_
  refine wl_arg 1 C dL_law_459 dL_law_460 dL_law_461 dL_law_462 dL_law_463 (by decide) hi (by omega) ?_
  refine wl_arg 2 C dL_law_464 dL_law_465 dL_law_466 dL_law_467 dL_law_468 (by decide) hi (by omega) ?_
  refine wl_call (t := 73) (as := [.int _, .int _]) (rest := [.int v]) C dL_law_469 lmL_49 kvX6_spikes rfl rfl (by decide) rfl rfl (Nat.le_of_ble_eq_true rfl) hM (fun q μ2 hq hr => ?_)
  obtain ⟨rfl, hrel2⟩ := hq
  refine wl_eqI 1302 C dL_law_472 (by decide) ?_
  exact K μ2 hrel2
theorem wl_fill {j N : Nat} (C : LK p s m meth c b L xs G) (hi : i = nI j) (hj : j + 6 ≤ L) (hN : N ≤ 512) (hrel : Rel N μ) (K : ∀ μ2, Rel (N + 1) μ2 → LWp p l e s m below meth c b G 1302 i [] μ2) : LWp p l e s m below meth c b G 477 i [] μ := by
  refine wl_x C dL_law_477 ?_
  refine wl_arg 1 C dL_law_478 dL_law_479 dL_law_480 dL_law_481 dL_law_482 (by decide) hi (by omega) ?_
  refine wl_arg 2 C dL_law_483 dL_law_484 dL_law_485 dL_law_486 dL_law_487 (by decide) hi (by omega) ?_
  refine wl_call (t := 0) (as := [.int _, .int _]) C dL_law_488 lmL_50 kvX5_fill rfl rfl (by decide) rfl rfl (Nat.le_of_ble_eq_true rfl) (pr_fill _ _ N μ 5 5 (Nat.le_refl 5) (Nat.le_refl 5) hN hrel) (fun r μ1 hM hr => ?_)
  obtain ⟨v, rfl⟩ := hr
  refine wl_m C dL_law_491 ?_
  refine wl_arg 1 C dL_law_492 dL_law_493 dL_law_494 dL_law_495 dL_law_496 (by decide) hi (by omega) ?_
  refine wl_arg 2 C dL_law_497 dL_law_498 dL_law_499 dL_law_500 dL_law_501 (by decide) hi (by omega) ?_
  refine wl_call (t := 73) (as := [.int _, .int _]) (rest := [.int v]) C dL_law_502 lmL_53 kvX6_fill rfl rfl (by decide) rfl rfl (Nat.le_of_ble_eq_true rfl) hM (fun q μ2 hq hr => ?_)
  obtain ⟨rfl, hrel2⟩ := hq
  refine wl_eqI 1302 C dL_law_505 (by decide) ?_
  exact K μ2 hrel2
theorem wl_about {j N : Nat} (C : LK p s m meth c b L xs G) (hi : i = nI j) (hj : j + 6 ≤ L) (hN : N ≤ 512) (hrel : Rel N μ) (K : ∀ μ2, Rel (N + 1) μ2 → LWp p l e s m below meth c b G 1302 i [] μ2) : LWp p l e s m below meth c b G 510 i [] μ := by
  refine wl_x C dL_law_510 ?_
  refine wl_arg 1 C dL_law_511 dL_law_512 dL_law_513 dL_law_514 dL_law_515 (by decide) hi (by omega) ?_
  refine wl_arg 2 C dL_law_516 dL_law_517 dL_law_518 dL_law_519 dL_law_520 (by decide) hi (by omega) ?_
  refine wl_call (t := 0) (as := [.int _, .int _]) C dL_law_521 lmL_54 kvX5_about rfl rfl (by decide) rfl rfl (Nat.le_of_ble_eq_true rfl) (pr_about _ _ N μ 5 5 (Nat.le_refl 5) (Nat.le_refl 5) hN hrel) (fun r μ1 hM hr => ?_)
  obtain ⟨v, rfl⟩ := hr
  refine wl_m C dL_law_524 ?_
  refine wl_arg 1 C dL_law_525 dL_law_526 dL_law_527 dL_law_528 dL_law_529 (by decide) hi (by omega) ?_
  refine wl_arg 2 C dL_law_530 dL_law_531 dL_law_532 dL_law_533 dL_law_534 (by decide) hi (by omega) ?_
  refine wl_call (t := 73) (as := [.int _, .int _]) (rest := [.int v]) C dL_law_535 lmL_57 kvX6_about rfl rfl (by decide) rfl rfl (Nat.le_of_ble_eq_true rfl) hM (fun q μ2 hq hr => ?_)
  obtain ⟨rfl, hrel2⟩ := hq
  refine wl_eqI 1302 C dL_law_538 (by decide) ?_
  exact K μ2 hrel2
theorem wl_raise {j N : Nat} (C : LK p s m meth c b L xs G) (hi : i = nI j) (hj : j + 6 ≤ L) (hN : N ≤ 512) (hrel : Rel N μ) (K : ∀ μ2, Rel (N + 1) μ2 → LWp p l e s m below meth c b G 1302 i [] μ2) : LWp p l e s m below meth c b G 543 i [] μ := by
  refine wl_x C dL_law_543 ?_
  refine wl_arg 1 C dL_law_544 dL_law_545 dL_law_546 dL_law_547 dL_law_548 (by decide) hi (by omega) ?_
  refine wl_arg 2 C dL_law_549 dL_law_550 dL_law_551 dL_law_552 dL_law_553 (by decide) hi (by omega) ?_
  refine wl_call (t := 0) (as := [.int _, .int _]) C dL_law_554 lmL_58 kvX5_raise rfl rfl (by decide) rfl rfl (Nat.le_of_ble_eq_true rfl) (pr_raise _ _ N μ 5 5 (Nat.le_refl 5) (Nat.le_refl 5) hN hrel) (fun r μ1 hM hr => ?_)
  obtain ⟨v, rfl⟩ := hr
  refine wl_m C dL_law_557 ?_
  refine wl_arg 1 C dL_law_558 dL_law_559 dL_law_560 dL_law_561 dL_law_562 (by decide) hi (by omega) ?_
  refine wl_arg 2 C dL_law_563 dL_law_564 dL_law_565 dL_law_566 dL_law_567 (by decide) hi (by omega) ?_
  refine wl_call (t := 73) (as := [.int _, .int _]) (rest := [.int v]) C dL_law_568 lmL_61 kvX6_raise rfl rfl (by decide) rfl rfl (Nat.le_of_ble_eq_true rfl) hM (fun q μ2 hq hr => ?_)
  obtain ⟨rfl, hrel2⟩ := hq
  refine wl_eqI 1302 C dL_law_571 (by decide) ?_
  exact K μ2 hrel2
theorem wl_number {j N : Nat} (C : LK p s m meth c b L xs G) (hi : i = nI j) (hj : j + 6 ≤ L) (hN : N ≤ 512) (hrel : Rel N μ) (K : ∀ μ2, Rel (N + 1) μ2 → LWp p l e s m below meth c b G 1302 i [] μ2) : LWp p l e s m below meth c b G 576 i [] μ := by
  refine wl_x C dL_law_576 ?_
  refine wl_arg 1 C dL_law_577 dL_law_578 dL_law_579 dL_law_580 dL_law_581 (by decide) hi (by omega) ?_
  refine wl_arg 2 C dL_law_582 dL_law_583 dL_law_584 dL_law_585 dL_law_586 (by decide) hi (by omega) ?_
  refine wl_call (t := 0) (as := [.int _, .int _]) C dL_law_587 lmL_62 kvX5_number rfl rfl (by decide) rfl rfl (Nat.le_of_ble_eq_true rfl) (pr_number _ _ N μ 5 5 (Nat.le_refl 5) (Nat.le_refl 5) hN hrel) (fun r μ1 hM hr => ?_)
  obtain ⟨v, rfl⟩ := hr
  refine wl_m C dL_law_590 ?_
  refine wl_arg 1 C dL_law_591 dL_law_592 dL_law_593 dL_law_594 dL_law_595 (by decide) hi (by omega) ?_
  refine wl_arg 2 C dL_law_596 dL_law_597 dL_law_598 dL_law_599 dL_law_600 (by decide) hi (by omega) ?_
  refine wl_call (t := 73) (as := [.int _, .int _]) (rest := [.long v]) C dL_law_601 lmL_65 kvX6_number rfl rfl (by decide) rfl rfl (Nat.le_of_ble_eq_true rfl) hM (fun q μ2 hq hr => ?_)
  obtain ⟨rfl, hrel2⟩ := hq
  refine wl_eqL 1302 C dL_law_604 dL_law_605 (by decide) ?_
  exact K μ2 hrel2
theorem wl_turn {j N : Nat} (C : LK p s m meth c b L xs G) (hi : i = nI j) (hj : j + 6 ≤ L) (hN : N ≤ 512) (hrel : Rel N μ) (K : ∀ μ2, Rel (N + 1) μ2 → LWp p l e s m below meth c b G 1302 i [] μ2) : LWp p l e s m below meth c b G 610 i [] μ := by
  refine wl_x C dL_law_610 ?_
  refine wl_arg 1 C dL_law_611 dL_law_612 dL_law_613 dL_law_614 dL_law_615 (by decide) hi (by omega) ?_
  refine wl_arg 2 C dL_law_616 dL_law_617 dL_law_618 dL_law_619 dL_law_620 (by decide) hi (by omega) ?_
  refine wl_call (t := 0) (as := [.int _, .int _]) C dL_law_621 lmL_66 kvX5_turn rfl rfl (by decide) rfl rfl (Nat.le_of_ble_eq_true rfl) (pr_turn _ _ N μ 5 5 (Nat.le_refl 5) (Nat.le_refl 5) hN hrel) (fun r μ1 hM hr => ?_)
  obtain ⟨v, rfl⟩ := hr
  refine wl_m C dL_law_624 ?_
  refine wl_arg 1 C dL_law_625 dL_law_626 dL_law_627 dL_law_628 dL_law_629 (by decide) hi (by omega) ?_
  refine wl_arg 2 C dL_law_630 dL_law_631 dL_law_632 dL_law_633 dL_law_634 (by decide) hi (by omega) ?_
  refine wl_call (t := 73) (as := [.int _, .int _]) (rest := [.int v]) C dL_law_635 lmL_69 kvX6_turn rfl rfl (by decide) rfl rfl (Nat.le_of_ble_eq_true rfl) hM (fun q μ2 hq hr => ?_)
  obtain ⟨rfl, hrel2⟩ := hq
  refine wl_eqI 1302 C dL_law_638 (by decide) ?_
  exact K μ2 hrel2
theorem wl_part {j N : Nat} (C : LK p s m meth c b L xs G) (hi : i = nI j) (hj : j + 6 ≤ L) (hN : N ≤ 512) (hrel : Rel N μ) (K : ∀ μ2, Rel (N + 1) μ2 → LWp p l e s m below meth c b G 1302 i [] μ2) : LWp p l e s m below meth c b G 643 i [] μ := by
  refine wl_x C dL_law_643 ?_
  refine wl_arg 1 C dL_law_644 dL_law_645 dL_law_646 dL_law_647 dL_law_648 (by decide) hi (by omega) ?_
  refine wl_arg 2 C dL_law_649 dL_law_650 dL_law_651 dL_law_652 dL_law_653 (by decide) hi (by omega) ?_
  refine wl_arg 3 C dL_law_654 dL_law_655 dL_law_656 dL_law_657 dL_law_658 (by decide) hi (by omega) ?_
  refine wl_call (t := 0) (as := [.int _, .int _, .int _]) C dL_law_659 lmL_70 kvX5_part rfl rfl (by decide) rfl rfl (Nat.le_of_ble_eq_true rfl) (pr_part _ _ _ N μ 5 5 (Nat.le_refl 5) (Nat.le_refl 5) hN hrel) (fun r μ1 hM hr => ?_)
  obtain ⟨v, rfl⟩ := hr
  refine wl_m C dL_law_662 ?_
  refine wl_arg 1 C dL_law_663 dL_law_664 dL_law_665 dL_law_666 dL_law_667 (by decide) hi (by omega) ?_
  refine wl_arg 2 C dL_law_668 dL_law_669 dL_law_670 dL_law_671 dL_law_672 (by decide) hi (by omega) ?_
  refine wl_arg 3 C dL_law_673 dL_law_674 dL_law_675 dL_law_676 dL_law_677 (by decide) hi (by omega) ?_
  refine wl_call (t := 73) (as := [.int _, .int _, .int _]) (rest := [.int v]) C dL_law_678 lmL_73 kvX6_part rfl rfl (by decide) rfl rfl (Nat.le_of_ble_eq_true rfl) hM (fun q μ2 hq hr => ?_)
  obtain ⟨rfl, hrel2⟩ := hq
  refine wl_eqI 1302 C dL_law_681 (by decide) ?_
  exact K μ2 hrel2
theorem wl_mix {j N : Nat} (C : LK p s m meth c b L xs G) (hi : i = nI j) (hj : j + 6 ≤ L) (hN : N ≤ 512) (hrel : Rel N μ) (K : ∀ μ2, Rel (N + 1) μ2 → LWp p l e s m below meth c b G 1302 i [] μ2) : LWp p l e s m below meth c b G 686 i [] μ := by
  refine wl_x C dL_law_686 ?_
  refine wl_arg 1 C dL_law_687 dL_law_688 dL_law_689 dL_law_690 dL_law_691 (by decide) hi (by omega) ?_
  refine wl_arg 2 C dL_law_692 dL_law_693 dL_law_694 dL_law_695 dL_law_696 (by decide) hi (by omega) ?_
  refine wl_arg 3 C dL_law_697 dL_law_698 dL_law_699 dL_law_700 dL_law_701 (by decide) hi (by omega) ?_
  refine wl_arg 4 C dL_law_702 dL_law_703 dL_law_704 dL_law_705 dL_law_706 (by decide) hi (by omega) ?_
  refine wl_call (t := 0) (as := [.int _, .int _, .int _, .int _]) C dL_law_707 lmL_74 kvX5_mix rfl rfl (by decide) rfl rfl (Nat.le_of_ble_eq_true rfl) (pr_mix _ _ _ _ N μ 5 5 (Nat.le_refl 5) (Nat.le_refl 5) hN hrel) (fun r μ1 hM hr => ?_)
  obtain ⟨v, rfl⟩ := hr
  refine wl_m C dL_law_710 ?_
  refine wl_arg 1 C dL_law_711 dL_law_712 dL_law_713 dL_law_714 dL_law_715 (by decide) hi (by omega) ?_
  refine wl_arg 2 C dL_law_716 dL_law_717 dL_law_718 dL_law_719 dL_law_720 (by decide) hi (by omega) ?_
  refine wl_arg 3 C dL_law_721 dL_law_722 dL_law_723 dL_law_724 dL_law_725 (by decide) hi (by omega) ?_
  refine wl_arg 4 C dL_law_726 dL_law_727 dL_law_728 dL_law_729 dL_law_730 (by decide) hi (by omega) ?_
  refine wl_call (t := 73) (as := [.int _, .int _, .int _, .int _]) (rest := [.int v]) C dL_law_731 lmL_78 kvX6_mix rfl rfl (by decide) rfl rfl (Nat.le_of_ble_eq_true rfl) hM (fun q μ2 hq hr => ?_)
  obtain ⟨rfl, hrel2⟩ := hq
  refine wl_eqI 1302 C dL_law_734 (by decide) ?_
  exact K μ2 hrel2
theorem wl_force {j N : Nat} (C : LK p s m meth c b L xs G) (hi : i = nI j) (hj : j + 6 ≤ L) (hN : N ≤ 512) (hrel : Rel N μ) (K : ∀ μ2, Rel (N + 1) μ2 → LWp p l e s m below meth c b G 1302 i [] μ2) : LWp p l e s m below meth c b G 739 i [] μ := by
  refine wl_x C dL_law_739 ?_
  refine wl_arg 1 C dL_law_740 dL_law_741 dL_law_742 dL_law_743 dL_law_744 (by decide) hi (by omega) ?_
  refine wl_arg 2 C dL_law_745 dL_law_746 dL_law_747 dL_law_748 dL_law_749 (by decide) hi (by omega) ?_
  refine wl_arg 3 C dL_law_750 dL_law_751 dL_law_752 dL_law_753 dL_law_754 (by decide) hi (by omega) ?_
  refine wl_call (t := 0) (as := [.int _, .int _, .int _]) C dL_law_755 lmL_79 kvX5_force rfl rfl (by decide) rfl rfl (Nat.le_of_ble_eq_true rfl) (pr_force _ _ _ N μ 5 5 (Nat.le_refl 5) (Nat.le_refl 5) hN hrel) (fun r μ1 hM hr => ?_)
  obtain ⟨v, rfl⟩ := hr
  refine wl_m C dL_law_758 ?_
  refine wl_arg 1 C dL_law_759 dL_law_760 dL_law_761 dL_law_762 dL_law_763 (by decide) hi (by omega) ?_
  refine wl_arg 2 C dL_law_764 dL_law_765 dL_law_766 dL_law_767 dL_law_768 (by decide) hi (by omega) ?_
  refine wl_arg 3 C dL_law_769 dL_law_770 dL_law_771 dL_law_772 dL_law_773 (by decide) hi (by omega) ?_
  refine wl_call (t := 73) (as := [.int _, .int _, .int _]) (rest := [.long v]) C dL_law_774 lmL_83 kvX6_force rfl rfl (by decide) rfl rfl (Nat.le_of_ble_eq_true rfl) hM (fun q μ2 hq hr => ?_)
  obtain ⟨rfl, hrel2⟩ := hq
  refine wl_eqL 1302 C dL_law_777 dL_law_778 (by decide) ?_
  exact K μ2 hrel2
theorem wl_cross {j N : Nat} (C : LK p s m meth c b L xs G) (hi : i = nI j) (hj : j + 6 ≤ L) (hN : N ≤ 512) (hrel : Rel N μ) (K : ∀ μ2, Rel (N + 1) μ2 → LWp p l e s m below meth c b G 1302 i [] μ2) : LWp p l e s m below meth c b G 783 i [] μ := by
  refine wl_x C dL_law_783 ?_
  refine wl_arg 1 C dL_law_784 dL_law_785 dL_law_786 dL_law_787 dL_law_788 (by decide) hi (by omega) ?_
  refine wl_arg 2 C dL_law_789 dL_law_790 dL_law_791 dL_law_792 dL_law_793 (by decide) hi (by omega) ?_
  refine wl_call (t := 0) (as := [.int _, .int _]) C dL_law_794 lmL_84 kvX5_cross rfl rfl (by decide) rfl rfl (Nat.le_of_ble_eq_true rfl) (pr_cross _ _ N μ 5 5 (Nat.le_refl 5) (Nat.le_refl 5) hN hrel) (fun r μ1 hM hr => ?_)
  obtain ⟨v, rfl⟩ := hr
  refine wl_m C dL_law_797 ?_
  refine wl_arg 1 C dL_law_798 dL_law_799 dL_law_800 dL_law_801 dL_law_802 (by decide) hi (by omega) ?_
  refine wl_arg 2 C dL_law_803 dL_law_804 dL_law_805 dL_law_806 dL_law_807 (by decide) hi (by omega) ?_
  refine wl_call (t := 73) (as := [.int _, .int _]) (rest := [.long v]) C dL_law_808 lmL_87 kvX6_cross rfl rfl (by decide) rfl rfl (Nat.le_of_ble_eq_true rfl) hM (fun q μ2 hq hr => ?_)
  obtain ⟨rfl, hrel2⟩ := hq
  refine wl_eqL 1302 C dL_law_811 dL_law_812 (by decide) ?_
  exact K μ2 hrel2
theorem wl_waves {j N : Nat} (C : LK p s m meth c b L xs G) (hi : i = nI j) (hj : j + 6 ≤ L) (hN : N ≤ 512) (hrel : Rel N μ) (K : ∀ μ2, Rel (N + 1) μ2 → LWp p l e s m below meth c b G 1302 i [] μ2) : LWp p l e s m below meth c b G 817 i [] μ := by
  refine wl_x C dL_law_817 ?_
  refine wl_arg 1 C dL_law_818 dL_law_819 dL_law_820 dL_law_821 dL_law_822 (by decide) hi (by omega) ?_
  refine wl_call (t := 0) (as := [.int _]) C dL_law_823 lmL_88 kvX5_waves rfl rfl (by decide) rfl rfl (Nat.le_of_ble_eq_true rfl) (pr_waves _ N μ 5 5 (Nat.le_refl 5) (Nat.le_refl 5) hN hrel) (fun r μ1 hM hr => ?_)
  obtain ⟨v, rfl⟩ := hr
  refine wl_m C dL_law_826 ?_
  refine wl_arg 1 C dL_law_827 dL_law_828 dL_law_829 dL_law_830 dL_law_831 (by decide) hi (by omega) ?_
  refine wl_call (t := 73) (as := [.int _]) (rest := [.int v]) C dL_law_832 lmL_91 kvX6_waves rfl rfl (by decide) rfl rfl (Nat.le_of_ble_eq_true rfl) hM (fun q μ2 hq hr => ?_)
  obtain ⟨rfl, hrel2⟩ := hq
  refine wl_eqI 1302 C dL_law_835 (by decide) ?_
  exact K μ2 hrel2
theorem wl_wave {j N : Nat} (C : LK p s m meth c b L xs G) (hi : i = nI j) (hj : j + 6 ≤ L) (hN : N ≤ 512) (hrel : Rel N μ) (K : ∀ μ2, Rel (N + 1) μ2 → LWp p l e s m below meth c b G 1302 i [] μ2) : LWp p l e s m below meth c b G 840 i [] μ := by
  refine wl_x C dL_law_840 ?_
  refine wl_arg 1 C dL_law_841 dL_law_842 dL_law_843 dL_law_844 dL_law_845 (by decide) hi (by omega) ?_
  refine wl_arg 2 C dL_law_846 dL_law_847 dL_law_848 dL_law_849 dL_law_850 (by decide) hi (by omega) ?_
  refine wl_arg 3 C dL_law_851 dL_law_852 dL_law_853 dL_law_854 dL_law_855 (by decide) hi (by omega) ?_
  refine wl_call (t := 0) (as := [.int _, .int _, .int _]) C dL_law_856 lmL_92 kvX5_wave rfl rfl (by decide) rfl rfl (Nat.le_of_ble_eq_true rfl) (pr_wave _ _ _ N μ 5 5 (Nat.le_refl 5) (Nat.le_refl 5) hN hrel) (fun r μ1 hM hr => ?_)
  obtain ⟨v, rfl⟩ := hr
  refine wl_m C dL_law_859 ?_
  refine wl_arg 1 C dL_law_860 dL_law_861 dL_law_862 dL_law_863 dL_law_864 (by decide) hi (by omega) ?_
  refine wl_arg 2 C dL_law_865 dL_law_866 dL_law_867 dL_law_868 dL_law_869 (by decide) hi (by omega) ?_
  refine wl_arg 3 C dL_law_870 dL_law_871 dL_law_872 dL_law_873 dL_law_874 (by decide) hi (by omega) ?_
  refine wl_call (t := 73) (as := [.int _, .int _, .int _]) (rest := [.long v]) C dL_law_875 lmL_95 kvX6_wave rfl rfl (by decide) rfl rfl (Nat.le_of_ble_eq_true rfl) hM (fun q μ2 hq hr => ?_)
  obtain ⟨rfl, hrel2⟩ := hq
  refine wl_eqL 1302 C dL_law_878 dL_law_879 (by decide) ?_
  exact K μ2 hrel2
theorem wl_third {j N : Nat} (C : LK p s m meth c b L xs G) (hi : i = nI j) (hj : j + 6 ≤ L) (hN : N ≤ 512) (hrel : Rel N μ) (K : ∀ μ2, Rel (N + 1) μ2 → LWp p l e s m below meth c b G 1302 i [] μ2) : LWp p l e s m below meth c b G 884 i [] μ := by
  refine wl_x C dL_law_884 ?_
  refine wl_arg 1 C dL_law_885 dL_law_886 dL_law_887 dL_law_888 dL_law_889 (by decide) hi (by omega) ?_
  refine wl_arg 2 C dL_law_890 dL_law_891 dL_law_892 dL_law_893 dL_law_894 (by decide) hi (by omega) ?_
  refine wl_call (t := 0) (as := [.int _, .int _]) C dL_law_895 lmL_96 kvX5_third rfl rfl (by decide) rfl rfl (Nat.le_of_ble_eq_true rfl) (pr_third _ _ N μ 5 5 (Nat.le_refl 5) (Nat.le_refl 5) hN hrel) (fun r μ1 hM hr => ?_)
  obtain ⟨v, rfl⟩ := hr
  refine wl_m C dL_law_898 ?_
  refine wl_arg 1 C dL_law_899 dL_law_900 dL_law_901 dL_law_902 dL_law_903 (by decide) hi (by omega) ?_
  refine wl_arg 2 C dL_law_904 dL_law_905 dL_law_906 dL_law_907 dL_law_908 (by decide) hi (by omega) ?_
  refine wl_call (t := 73) (as := [.int _, .int _]) (rest := [.long v]) C dL_law_909 lmL_99 kvX6_third rfl rfl (by decide) rfl rfl (Nat.le_of_ble_eq_true rfl) hM (fun q μ2 hq hr => ?_)
  obtain ⟨rfl, hrel2⟩ := hq
  refine wl_eqL 1302 C dL_law_912 dL_law_913 (by decide) ?_
  exact K μ2 hrel2
theorem wl_groups {j N : Nat} (C : LK p s m meth c b L xs G) (hi : i = nI j) (hj : j + 6 ≤ L) (hN : N ≤ 512) (hrel : Rel N μ) (K : ∀ μ2, Rel (N + 1) μ2 → LWp p l e s m below meth c b G 1302 i [] μ2) : LWp p l e s m below meth c b G 918 i [] μ := by
  refine wl_x C dL_law_918 ?_
  refine wl_arg 1 C dL_law_919 dL_law_920 dL_law_921 dL_law_922 dL_law_923 (by decide) hi (by omega) ?_
  refine wl_arg 2 C dL_law_924 dL_law_925 dL_law_926 dL_law_927 dL_law_928 (by decide) hi (by omega) ?_
  refine wl_i2l C dL_law_929 ?_
  refine wl_bipush (nI 32) C dL_law_930 (by decide) ?_
  refine wl_lshl C dL_law_932 ?_
  refine wl_arg 3 C dL_law_933 dL_law_934 dL_law_935 dL_law_936 dL_law_937 (by decide) hi (by omega) ?_
  refine wl_i2l C dL_law_938 ?_
  refine wl_ldc2 (4294967295) C dL_law_939 lcL_100 ?_
  refine wl_land C dL_law_942 ?_
  refine wl_lor C dL_law_943 ?_
  refine wl_arg 4 C dL_law_944 dL_law_945 dL_law_946 dL_law_947 dL_law_948 (by decide) hi (by omega) ?_
  refine wl_call (t := 0) (as := [.int _, .long _, .int _]) C dL_law_949 lmL_102 kvX5_groups rfl rfl (by decide) rfl rfl (Nat.le_of_ble_eq_true rfl) (pr_groups _ _ _ N μ 5 5 (Nat.le_refl 5) (Nat.le_refl 5) hN hrel) (fun r μ1 hM hr => ?_)
  obtain ⟨v, rfl⟩ := hr
  refine wl_m C dL_law_952 ?_
  refine wl_arg 1 C dL_law_953 dL_law_954 dL_law_955 dL_law_956 dL_law_957 (by decide) hi (by omega) ?_
  refine wl_arg 2 C dL_law_958 dL_law_959 dL_law_960 dL_law_961 dL_law_962 (by decide) hi (by omega) ?_
  refine wl_i2l C dL_law_963 ?_
  refine wl_bipush (nI 32) C dL_law_964 (by decide) ?_
  refine wl_lshl C dL_law_966 ?_
  refine wl_arg 3 C dL_law_967 dL_law_968 dL_law_969 dL_law_970 dL_law_971 (by decide) hi (by omega) ?_
  refine wl_i2l C dL_law_972 ?_
  refine wl_ldc2 (4294967295) C dL_law_973 lcL_100 ?_
  refine wl_land C dL_law_976 ?_
  refine wl_lor C dL_law_977 ?_
  refine wl_arg 4 C dL_law_978 dL_law_979 dL_law_980 dL_law_981 dL_law_982 (by decide) hi (by omega) ?_
  refine wl_call (t := 73) (as := [.int _, .long _, .int _]) (rest := [.int v]) C dL_law_983 lmL_106 kvX6_groups rfl rfl (by decide) rfl rfl (Nat.le_of_ble_eq_true rfl) hM (fun q μ2 hq hr => ?_)
  obtain ⟨rfl, hrel2⟩ := hq
  refine wl_eqI 1302 C dL_law_986 (by decide) ?_
  exact K μ2 hrel2
theorem wl_heading {j N : Nat} (C : LK p s m meth c b L xs G) (hi : i = nI j) (hj : j + 6 ≤ L) (hN : N ≤ 512) (hrel : Rel N μ) (K : ∀ μ2, Rel (N + 1) μ2 → LWp p l e s m below meth c b G 1302 i [] μ2) : LWp p l e s m below meth c b G 991 i [] μ := by
  refine wl_x C dL_law_991 ?_
  refine wl_arg 1 C dL_law_992 dL_law_993 dL_law_994 dL_law_995 dL_law_996 (by decide) hi (by omega) ?_
  refine wl_arg 2 C dL_law_997 dL_law_998 dL_law_999 dL_law_1000 dL_law_1001 (by decide) hi (by omega) ?_
  refine wl_arg 3 C dL_law_1002 dL_law_1003 dL_law_1004 dL_law_1005 dL_law_1006 (by decide) hi (by omega) ?_
  refine wl_arg 4 C dL_law_1007 dL_law_1008 dL_law_1009 dL_law_1010 dL_law_1011 (by decide) hi (by omega) ?_
  refine wl_call (t := 0) (as := [.int _, .int _, .int _, .int _]) C dL_law_1012 lmL_107 kvX5_heading rfl rfl (by decide) rfl rfl (Nat.le_of_ble_eq_true rfl) (pr_heading _ _ _ _ N μ 5 5 (Nat.le_refl 5) (Nat.le_refl 5) hN hrel) (fun r μ1 hM hr => ?_)
  obtain ⟨v, rfl⟩ := hr
  refine wl_m C dL_law_1015 ?_
  refine wl_arg 1 C dL_law_1016 dL_law_1017 dL_law_1018 dL_law_1019 dL_law_1020 (by decide) hi (by omega) ?_
  refine wl_arg 2 C dL_law_1021 dL_law_1022 dL_law_1023 dL_law_1024 dL_law_1025 (by decide) hi (by omega) ?_
  refine wl_arg 3 C dL_law_1026 dL_law_1027 dL_law_1028 dL_law_1029 dL_law_1030 (by decide) hi (by omega) ?_
  refine wl_arg 4 C dL_law_1031 dL_law_1032 dL_law_1033 dL_law_1034 dL_law_1035 (by decide) hi (by omega) ?_
  refine wl_call (t := 73) (as := [.int _, .int _, .int _, .int _]) (rest := [.int v]) C dL_law_1036 lmL_110 kvX6_heading rfl rfl (by decide) rfl rfl (Nat.le_of_ble_eq_true rfl) hM (fun q μ2 hq hr => ?_)
  obtain ⟨rfl, hrel2⟩ := hq
  refine wl_eqI 1302 C dL_law_1039 (by decide) ?_
  exact K μ2 hrel2
theorem wl_send {j N : Nat} (C : LK p s m meth c b L xs G) (hi : i = nI j) (hj : j + 6 ≤ L) (hN : N ≤ 512) (hrel : Rel N μ) (K : ∀ μ2, Rel (N + 1) μ2 → LWp p l e s m below meth c b G 1302 i [] μ2) : LWp p l e s m below meth c b G 1044 i [] μ := by
  refine wl_x C dL_law_1044 ?_
  refine wl_arg 1 C dL_law_1045 dL_law_1046 dL_law_1047 dL_law_1048 dL_law_1049 (by decide) hi (by omega) ?_
  refine wl_call (t := 0) (as := [.int _]) C dL_law_1050 lmL_111 kvX5_send rfl rfl (by decide) rfl rfl (Nat.le_of_ble_eq_true rfl) (pr_send _ N μ 5 5 (Nat.le_refl 5) (Nat.le_refl 5) hN hrel) (fun r μ1 hM hr => ?_)
  obtain ⟨v, rfl⟩ := hr
  refine wl_m C dL_law_1053 ?_
  refine wl_arg 1 C dL_law_1054 dL_law_1055 dL_law_1056 dL_law_1057 dL_law_1058 (by decide) hi (by omega) ?_
  refine wl_call (t := 73) (as := [.int _]) (rest := [.int v]) C dL_law_1059 lmL_114 kvX6_send rfl rfl (by decide) rfl rfl (Nat.le_of_ble_eq_true rfl) hM (fun q μ2 hq hr => ?_)
  obtain ⟨rfl, hrel2⟩ := hq
  refine wl_eqI 1302 C dL_law_1062 (by decide) ?_
  exact K μ2 hrel2
theorem wl_miss {j N : Nat} (C : LK p s m meth c b L xs G) (hi : i = nI j) (hj : j + 6 ≤ L) (hN : N ≤ 512) (hrel : Rel N μ) (K : ∀ μ2, Rel (N + 1) μ2 → LWp p l e s m below meth c b G 1302 i [] μ2) : LWp p l e s m below meth c b G 1067 i [] μ := by
  refine wl_x C dL_law_1067 ?_
  refine wl_arg 1 C dL_law_1068 dL_law_1069 dL_law_1070 dL_law_1071 dL_law_1072 (by decide) hi (by omega) ?_
  refine wl_call (t := 0) (as := [.int _]) C dL_law_1073 lmL_115 kvX5_miss rfl rfl (by decide) rfl rfl (Nat.le_of_ble_eq_true rfl) (pr_miss _ N μ 5 5 (Nat.le_refl 5) (Nat.le_refl 5) hN hrel) (fun r μ1 hM hr => ?_)
  obtain ⟨v, rfl⟩ := hr
  refine wl_m C dL_law_1076 ?_
  refine wl_arg 1 C dL_law_1077 dL_law_1078 dL_law_1079 dL_law_1080 dL_law_1081 (by decide) hi (by omega) ?_
  refine wl_call (t := 73) (as := [.int _]) (rest := [.int v]) C dL_law_1082 lmL_118 kvX6_miss rfl rfl (by decide) rfl rfl (Nat.le_of_ble_eq_true rfl) hM (fun q μ2 hq hr => ?_)
  obtain ⟨rfl, hrel2⟩ := hq
  refine wl_eqI 1302 C dL_law_1085 (by decide) ?_
  exact K μ2 hrel2
theorem wl_receive {j N : Nat} (C : LK p s m meth c b L xs G) (hi : i = nI j) (hj : j + 6 ≤ L) (hN : N ≤ 512) (hrel : Rel N μ) (K : ∀ μ2, Rel (N + 1) μ2 → LWp p l e s m below meth c b G 1302 i [] μ2) : LWp p l e s m below meth c b G 1090 i [] μ := by
  refine wl_x C dL_law_1090 ?_
  refine wl_arg 1 C dL_law_1091 dL_law_1092 dL_law_1093 dL_law_1094 dL_law_1095 (by decide) hi (by omega) ?_
  refine wl_call (t := 0) (as := [.int _]) C dL_law_1096 lmL_119 kvX5_receive rfl rfl (by decide) rfl rfl (Nat.le_of_ble_eq_true rfl) (pr_receive _ N μ 5 5 (Nat.le_refl 5) (Nat.le_refl 5) hN hrel) (fun r μ1 hM hr => ?_)
  obtain ⟨v, rfl⟩ := hr
  refine wl_m C dL_law_1099 ?_
  refine wl_arg 1 C dL_law_1100 dL_law_1101 dL_law_1102 dL_law_1103 dL_law_1104 (by decide) hi (by omega) ?_
  refine wl_call (t := 73) (as := [.int _]) (rest := [.int v]) C dL_law_1105 lmL_122 kvX6_receive rfl rfl (by decide) rfl rfl (Nat.le_of_ble_eq_true rfl) hM (fun q μ2 hq hr => ?_)
  obtain ⟨rfl, hrel2⟩ := hq
  refine wl_eqI 1302 C dL_law_1108 (by decide) ?_
  exact K μ2 hrel2
theorem wl_rule {j N : Nat} (C : LK p s m meth c b L xs G) (hi : i = nI j) (hj : j + 6 ≤ L) (hN : N ≤ 512) (hrel : Rel N μ) (K : ∀ μ2, Rel (N + 1) μ2 → LWp p l e s m below meth c b G 1302 i [] μ2) : LWp p l e s m below meth c b G 1113 i [] μ := by
  refine wl_x C dL_law_1113 ?_
  refine wl_arg 1 C dL_law_1114 dL_law_1115 dL_law_1116 dL_law_1117 dL_law_1118 (by decide) hi (by omega) ?_
  refine wl_arg 2 C dL_law_1119 dL_law_1120 dL_law_1121 dL_law_1122 dL_law_1123 (by decide) hi (by omega) ?_
  refine wl_arg 3 C dL_law_1124 dL_law_1125 dL_law_1126 dL_law_1127 dL_law_1128 (by decide) hi (by omega) ?_
  refine wl_call (t := 0) (as := [.int _, .int _, .int _]) C dL_law_1129 lmL_123 kvX5_rule rfl rfl (by decide) rfl rfl (Nat.le_of_ble_eq_true rfl) (pr_rule _ _ _ N μ 5 5 (Nat.le_refl 5) (Nat.le_refl 5) hN hrel) (fun r μ1 hM hr => ?_)
  obtain ⟨v, rfl⟩ := hr
  refine wl_m C dL_law_1132 ?_
  refine wl_arg 1 C dL_law_1133 dL_law_1134 dL_law_1135 dL_law_1136 dL_law_1137 (by decide) hi (by omega) ?_
  refine wl_arg 2 C dL_law_1138 dL_law_1139 dL_law_1140 dL_law_1141 dL_law_1142 (by decide) hi (by omega) ?_
  refine wl_arg 3 C dL_law_1143 dL_law_1144 dL_law_1145 dL_law_1146 dL_law_1147 (by decide) hi (by omega) ?_
  refine wl_call (t := 73) (as := [.int _, .int _, .int _]) (rest := [.int v]) C dL_law_1148 lmL_126 kvX6_rule rfl rfl (by decide) rfl rfl (Nat.le_of_ble_eq_true rfl) hM (fun q μ2 hq hr => ?_)
  obtain ⟨rfl, hrel2⟩ := hq
  refine wl_eqI 1302 C dL_law_1151 (by decide) ?_
  exact K μ2 hrel2
theorem wl_hear {j N : Nat} (C : LK p s m meth c b L xs G) (hi : i = nI j) (hj : j + 6 ≤ L) (hN : N ≤ 512) (hrel : Rel N μ) (K : ∀ μ2, Rel (N + 1) μ2 → LWp p l e s m below meth c b G 1302 i [] μ2) : LWp p l e s m below meth c b G 1156 i [] μ := by
  refine wl_x C dL_law_1156 ?_
  refine wl_arg 1 C dL_law_1157 dL_law_1158 dL_law_1159 dL_law_1160 dL_law_1161 (by decide) hi (by omega) ?_
  refine wl_call (t := 0) (as := [.int _]) C dL_law_1162 lmL_127 kvX5_hear rfl rfl (by decide) rfl rfl (Nat.le_of_ble_eq_true rfl) (pr_hear _ N μ 5 5 (Nat.le_refl 5) (Nat.le_refl 5) hN hrel) (fun r μ1 hM hr => ?_)
  obtain ⟨v, rfl⟩ := hr
  refine wl_m C dL_law_1165 ?_
  refine wl_arg 1 C dL_law_1166 dL_law_1167 dL_law_1168 dL_law_1169 dL_law_1170 (by decide) hi (by omega) ?_
  refine wl_call (t := 73) (as := [.int _]) (rest := [.int v]) C dL_law_1171 lmL_130 kvX6_hear rfl rfl (by decide) rfl rfl (Nat.le_of_ble_eq_true rfl) hM (fun q μ2 hq hr => ?_)
  obtain ⟨rfl, hrel2⟩ := hq
  refine wl_eqI 1302 C dL_law_1174 (by decide) ?_
  exact K μ2 hrel2
theorem wl_anchor {j N : Nat} (C : LK p s m meth c b L xs G) (hi : i = nI j) (hj : j + 6 ≤ L) (hN : N ≤ 512) (hrel : Rel N μ) (K : ∀ μ2, Rel (N + 1) μ2 → LWp p l e s m below meth c b G 1302 i [] μ2) : LWp p l e s m below meth c b G 1179 i [] μ := by
  refine wl_x C dL_law_1179 ?_
  refine wl_arg 1 C dL_law_1180 dL_law_1181 dL_law_1182 dL_law_1183 dL_law_1184 (by decide) hi (by omega) ?_
  refine wl_arg 2 C dL_law_1185 dL_law_1186 dL_law_1187 dL_law_1188 dL_law_1189 (by decide) hi (by omega) ?_
  refine wl_arg 3 C dL_law_1190 dL_law_1191 dL_law_1192 dL_law_1193 dL_law_1194 (by decide) hi (by omega) ?_
  refine wl_arg 4 C dL_law_1195 dL_law_1196 dL_law_1197 dL_law_1198 dL_law_1199 (by decide) hi (by omega) ?_
  refine wl_call (t := 0) (as := [.int _, .int _, .int _, .int _]) C dL_law_1200 lmL_131 kvX5_anchor rfl rfl (by decide) rfl rfl (Nat.le_of_ble_eq_true rfl) (pr_anchor _ _ _ _ N μ 5 5 (Nat.le_refl 5) (Nat.le_refl 5) hN hrel) (fun r μ1 hM hr => ?_)
  obtain ⟨v, rfl⟩ := hr
  refine wl_m C dL_law_1203 ?_
  refine wl_arg 1 C dL_law_1204 dL_law_1205 dL_law_1206 dL_law_1207 dL_law_1208 (by decide) hi (by omega) ?_
  refine wl_arg 2 C dL_law_1209 dL_law_1210 dL_law_1211 dL_law_1212 dL_law_1213 (by decide) hi (by omega) ?_
  refine wl_arg 3 C dL_law_1214 dL_law_1215 dL_law_1216 dL_law_1217 dL_law_1218 (by decide) hi (by omega) ?_
  refine wl_arg 4 C dL_law_1219 dL_law_1220 dL_law_1221 dL_law_1222 dL_law_1223 (by decide) hi (by omega) ?_
  refine wl_call (t := 73) (as := [.int _, .int _, .int _, .int _]) (rest := [.int v]) C dL_law_1224 lmL_134 kvX6_anchor rfl rfl (by decide) rfl rfl (Nat.le_of_ble_eq_true rfl) hM (fun q μ2 hq hr => ?_)
  obtain ⟨rfl, hrel2⟩ := hq
  refine wl_eqI 1302 C dL_law_1227 (by decide) ?_
  exact K μ2 hrel2
theorem wl_fix {j N : Nat} (C : LK p s m meth c b L xs G) (hi : i = nI j) (hj : j + 6 ≤ L) (hN : N ≤ 512) (hrel : Rel N μ) (K : ∀ μ2, Rel (N + 1) μ2 → LWp p l e s m below meth c b G 1302 i [] μ2) : LWp p l e s m below meth c b G 1232 i [] μ := by
  refine wl_x C dL_law_1232 ?_
  refine wl_arg 1 C dL_law_1233 dL_law_1234 dL_law_1235 dL_law_1236 dL_law_1237 (by decide) hi (by omega) ?_
  refine wl_arg 2 C dL_law_1238 dL_law_1239 dL_law_1240 dL_law_1241 dL_law_1242 (by decide) hi (by omega) ?_
  refine wl_call (t := 0) (as := [.int _, .int _]) C dL_law_1243 lmL_135 kvX5_fix rfl rfl (by decide) rfl rfl (Nat.le_of_ble_eq_true rfl) (pr_fix _ _ N μ 5 5 (Nat.le_refl 5) (Nat.le_refl 5) hN hrel) (fun r μ1 hM hr => ?_)
  obtain ⟨v, rfl⟩ := hr
  refine wl_m C dL_law_1246 ?_
  refine wl_arg 1 C dL_law_1247 dL_law_1248 dL_law_1249 dL_law_1250 dL_law_1251 (by decide) hi (by omega) ?_
  refine wl_arg 2 C dL_law_1252 dL_law_1253 dL_law_1254 dL_law_1255 dL_law_1256 (by decide) hi (by omega) ?_
  refine wl_call (t := 73) (as := [.int _, .int _]) (rest := [.int v]) C dL_law_1257 lmL_138 kvX6_fix rfl rfl (by decide) rfl rfl (Nat.le_of_ble_eq_true rfl) hM (fun q μ2 hq hr => ?_)
  obtain ⟨rfl, hrel2⟩ := hq
  refine wl_eqI 1302 C dL_law_1260 (by decide) ?_
  exact K μ2 hrel2
theorem wl_count {j N : Nat} (C : LK p s m meth c b L xs G) (hi : i = nI j) (hj : j + 6 ≤ L) (hN : N ≤ 512) (hrel : Rel N μ) (K : ∀ μ2, Rel (N + 1) μ2 → LWp p l e s m below meth c b G 1302 i [] μ2) : LWp p l e s m below meth c b G 1265 i [] μ := by
  refine wl_x C dL_law_1265 ?_
  refine wl_arg 1 C dL_law_1266 dL_law_1267 dL_law_1268 dL_law_1269 dL_law_1270 (by decide) hi (by omega) ?_
  refine wl_call (t := 0) (as := [.int _]) C dL_law_1271 lmL_139 kvX5_count rfl rfl (by decide) rfl rfl (Nat.le_of_ble_eq_true rfl) (pr_count _ N μ 5 5 (Nat.le_refl 5) (Nat.le_refl 5) hN hrel) (fun r μ1 hM hr => ?_)
  obtain ⟨v, rfl⟩ := hr
  refine wl_m C dL_law_1274 ?_
  refine wl_arg 1 C dL_law_1275 dL_law_1276 dL_law_1277 dL_law_1278 dL_law_1279 (by decide) hi (by omega) ?_
  refine wl_call (t := 73) (as := [.int _]) (rest := [.int v]) C dL_law_1280 lmL_142 kvX6_count rfl rfl (by decide) rfl rfl (Nat.le_of_ble_eq_true rfl) hM (fun q μ2 hq hr => ?_)
  obtain ⟨rfl, hrel2⟩ := hq
  refine wl_eqI 1302 C dL_law_1283 (by decide) ?_
  exact K μ2 hrel2
theorem wl_digest {j N : Nat} (C : LK p s m meth c b L xs G) (hi : i = nI j) (hj : j + 6 ≤ L) (hN : N ≤ 512) (hrel : Rel N μ) (K : ∀ μ2, Rel (N + 1) μ2 → LWp p l e s m below meth c b G 1302 i [] μ2) : LWp p l e s m below meth c b G 1288 i [] μ := by
  refine wl_x C dL_law_1288 ?_
  refine wl_call (t := 0) (as := []) C dL_law_1289 lmL_143 kvX5_digest rfl rfl (by decide) rfl rfl (Nat.le_of_ble_eq_true rfl) (pr_digest N μ 5 5 (Nat.le_refl 5) (Nat.le_refl 5) hN hrel) (fun r μ1 hM hr => ?_)
  obtain ⟨v, rfl⟩ := hr
  refine wl_m C dL_law_1292 ?_
  refine wl_call (t := 73) (as := []) (rest := [.long v]) C dL_law_1293 lmL_147 kvX6_digest rfl rfl (by decide) rfl rfl (Nat.le_of_ble_eq_true rfl) hM (fun q μ2 hq hr => ?_)
  obtain ⟨rfl, hrel2⟩ := hq
  refine wl_eqL 1302 C dL_law_1296 dL_law_1297 (by decide) ?_
  exact K μ2 hrel2
end LAW
section LOOP
variable {p : Program} {l : Launch} {e : Env} {s : State} {m : MethodId} {below : List Frame} {meth : Method} {c : Code} {b L : Nat} {xs : Nat → Int32} {G : WG}
set_option maxHeartbeats 4000000 in
theorem law_loop (C : LK p s m meth c b L xs G) : ∀ (fuel r : Nat) (μ : Mem), r + fuel = 513 → 6 * r ≤ L + 6 → Rel r μ → LWp p l e s m below meth c b G 18 (nI (6 * r)) [] μ := by
  have hL := C.2.1
  intro fuel
  induction fuel with
  | zero =>
    intro r μ hr hrl hrel H locs ls hP hS hl
    refine lv_iload_n C.1.1 C.1.2.1 dL_law_18 rfl (lv_at hl 3 rfl) ?_
    refine lv_aload_n C.1.1 C.1.2.1 dL_law_19 rfl (lv_at hl 0 rfl) ?_
    refine va_slen C.1.1 C.1.2.1 C.1.2.2.2.2.2.2.1 C.1.2.2.2.2.2.2.2.1 (lk_b C) hS dL_law_20 ?_
    refine lv_bipush (v := nI 6) C.1.1 C.1.2.1 dL_law_21 (by decide) ?_
    refine lv_isub C.1.1 C.1.2.1 dL_law_23 ?_
    have e_ : (nI L - nI 6).toInt = (L : Int) - 6 := pk_sub_toInt (by omega) (by omega)
    refine lv_icmp_gt (tgt := 1308) C.1.1 C.1.2.1 dL_law_24 (by decide) (fun _ => ?_) (fun q => absurd (by
      show nI L - nI 6 < nI (6 * r)
      rw [Int32.lt_iff_toInt_lt, e_, nI_toInt (by omega)]
      omega) q)
    refine lv_iconst (v := 1) C.1.1 C.1.2.1 dL_law_1308 (by decide) ?_
    refine va_forget (fun q hq => hS.2.2 q hq) ?_
    refine W.widen (k := 600000) (n := 7302250) (Nat.le_of_ble_eq_true rfl) (Nat.le_of_ble_eq_true rfl) ?_
    exact lw_ret C.1.1 C.1.2.1 C.1.2.2.1 C.1.2.2.2.2.2.2.2.2.1 dL_law_1309
  | succ fuel ih =>
    intro r μ hr hrl hrel H locs ls hP hS hl
    refine lv_iload_n C.1.1 C.1.2.1 dL_law_18 rfl (lv_at hl 3 rfl) ?_
    refine lv_aload_n C.1.1 C.1.2.1 dL_law_19 rfl (lv_at hl 0 rfl) ?_
    refine va_slen C.1.1 C.1.2.1 C.1.2.2.2.2.2.2.1 C.1.2.2.2.2.2.2.2.1 (lk_b C) hS dL_law_20 ?_
    refine lv_bipush (v := nI 6) C.1.1 C.1.2.1 dL_law_21 (by decide) ?_
    refine lv_isub C.1.1 C.1.2.1 dL_law_23 ?_
    have e_ : (nI L - nI 6).toInt = (L : Int) - 6 := pk_sub_toInt (by omega) (by omega)
    refine lv_icmp_gt (tgt := 1308) C.1.1 C.1.2.1 dL_law_24 (by decide) (fun _ => ?_) (fun q => ?_)
    · refine lv_iconst (v := 1) C.1.1 C.1.2.1 dL_law_1308 (by decide) ?_
      refine va_forget (fun q hq => hS.2.2 q hq) ?_
      refine W.widen (k := 600000) (n := 7302250) (Nat.le_of_ble_eq_true rfl) (Nat.le_of_ble_eq_true rfl) ?_
      exact lw_ret C.1.1 C.1.2.1 C.1.2.2.1 C.1.2.2.2.2.2.2.2.2.1 dL_law_1309
    · have hj : 6 * r + 6 ≤ L := by
        have q2 : ¬ nI L - nI 6 < nI (6 * r) := q
        rw [Int32.lt_iff_toInt_lt, e_, nI_toInt (by omega)] at q2
        omega
      have K : ∀ μ2, Rel (r + 1) μ2 → LWp p l e s m below meth c b G 1302 (nI (6 * r)) [] μ2 := by
        intro μ2 hrel2 H locs ls hP hS hl
        refine lv_iinc (v := nI (6 * r + 6)) (lv' := [(3, .int (nI (6 * r + 6))), (0, .ref b), (1, .ref (G.2.1 0)), (2, .ref (G.2.1 73))]) C.1.1 C.1.2.1 dL_law_1302 hl (k := 3) rfl (nI_add (6 * r) 6) (by decide) rfl (fun ls hl => ?_)
        refine lv_goto (tgt := 18) C.1.1 C.1.2.1 dL_law_1305 (by decide) ?_
        exact ih (r + 1) μ2 (by omega) (by omega) hrel2 H locs ls hP hS (lv_sub hl [1, 2, 3, 0] rfl)
      refine lv_aload_n C.1.1 C.1.2.1 dL_law_27 rfl (lv_at hl 0 rfl) ?_
      refine lv_iload_n C.1.1 C.1.2.1 dL_law_28 rfl (lv_at hl 3 rfl) ?_
      refine va_sld C.1.1 C.1.2.1 C.1.2.2.2.2.2.2.1 C.1.2.2.2.2.2.2.2.1 (lk_b C) hS (vp_in_nI (show 6 * r < L by omega) (by omega)) dL_law_29 ?_
      rw [nI_clamp (by omega)]
      refine lv_bipush (v := nI 31) C.1.1 C.1.2.1 dL_law_30 (by decide) ?_
      refine lv_iand C.1.1 C.1.2.1 dL_law_32 ?_
      obtain ⟨w, hw, ew⟩ := pk_andE (xs (6 * r)) (m := nI 31) 5 (by decide)
      rw [ew]
      match w, hw with
      | 0, _ =>
        refine lv_tableIn (tgt := 172) C.1.1 C.1.2.1 dL_law_33 (by decide) (by decide) (off := 139) (by decide) (by decide) ?_
        exact wl_sheet C rfl hj (by omega) hrel K H locs ls hP hS hl
      | 1, _ =>
        refine lv_tableIn (tgt := 215) C.1.1 C.1.2.1 dL_law_33 (by decide) (by decide) (off := 182) (by decide) (by decide) ?_
        exact wl_drop C rfl hj (by omega) hrel K H locs ls hP hS hl
      | 2, _ =>
        refine lv_tableIn (tgt := 238) C.1.1 C.1.2.1 dL_law_33 (by decide) (by decide) (off := 205) (by decide) (by decide) ?_
        exact wl_put C rfl hj (by omega) hrel K H locs ls hP hS hl
      | 3, _ =>
        refine lv_tableIn (tgt := 281) C.1.1 C.1.2.1 dL_law_33 (by decide) (by decide) (off := 248) (by decide) (by decide) ?_
        exact wl_get C rfl hj (by omega) hrel K H locs ls hP hS hl
      | 4, _ =>
        refine lv_tableIn (tgt := 315) C.1.1 C.1.2.1 dL_law_33 (by decide) (by decide) (off := 282) (by decide) (by decide) ?_
        exact wl_lose C rfl hj (by omega) hrel K H locs ls hP hS hl
      | 5, _ =>
        refine lv_tableIn (tgt := 348) C.1.1 C.1.2.1 dL_law_33 (by decide) (by decide) (off := 315) (by decide) (by decide) ?_
        exact wl_stands C rfl hj (by omega) hrel K H locs ls hP hS hl
      | 6, _ =>
        refine lv_tableIn (tgt := 381) C.1.1 C.1.2.1 dL_law_33 (by decide) (by decide) (off := 348) (by decide) (by decide) ?_
        exact wl_copy C rfl hj (by omega) hrel K H locs ls hP hS hl
      | 7, _ =>
        refine lv_tableIn (tgt := 444) C.1.1 C.1.2.1 dL_law_33 (by decide) (by decide) (off := 411) (by decide) (by decide) ?_
        exact wl_spikes C rfl hj (by omega) hrel K H locs ls hP hS hl
      | 8, _ =>
        refine lv_tableIn (tgt := 477) C.1.1 C.1.2.1 dL_law_33 (by decide) (by decide) (off := 444) (by decide) (by decide) ?_
        exact wl_fill C rfl hj (by omega) hrel K H locs ls hP hS hl
      | 9, _ =>
        refine lv_tableIn (tgt := 510) C.1.1 C.1.2.1 dL_law_33 (by decide) (by decide) (off := 477) (by decide) (by decide) ?_
        exact wl_about C rfl hj (by omega) hrel K H locs ls hP hS hl
      | 10, _ =>
        refine lv_tableIn (tgt := 543) C.1.1 C.1.2.1 dL_law_33 (by decide) (by decide) (off := 510) (by decide) (by decide) ?_
        exact wl_raise C rfl hj (by omega) hrel K H locs ls hP hS hl
      | 11, _ =>
        refine lv_tableIn (tgt := 576) C.1.1 C.1.2.1 dL_law_33 (by decide) (by decide) (off := 543) (by decide) (by decide) ?_
        exact wl_number C rfl hj (by omega) hrel K H locs ls hP hS hl
      | 12, _ =>
        refine lv_tableIn (tgt := 610) C.1.1 C.1.2.1 dL_law_33 (by decide) (by decide) (off := 577) (by decide) (by decide) ?_
        exact wl_turn C rfl hj (by omega) hrel K H locs ls hP hS hl
      | 13, _ =>
        refine lv_tableIn (tgt := 643) C.1.1 C.1.2.1 dL_law_33 (by decide) (by decide) (off := 610) (by decide) (by decide) ?_
        exact wl_part C rfl hj (by omega) hrel K H locs ls hP hS hl
      | 14, _ =>
        refine lv_tableIn (tgt := 686) C.1.1 C.1.2.1 dL_law_33 (by decide) (by decide) (off := 653) (by decide) (by decide) ?_
        exact wl_mix C rfl hj (by omega) hrel K H locs ls hP hS hl
      | 15, _ =>
        refine lv_tableIn (tgt := 739) C.1.1 C.1.2.1 dL_law_33 (by decide) (by decide) (off := 706) (by decide) (by decide) ?_
        exact wl_force C rfl hj (by omega) hrel K H locs ls hP hS hl
      | 16, _ =>
        refine lv_tableIn (tgt := 783) C.1.1 C.1.2.1 dL_law_33 (by decide) (by decide) (off := 750) (by decide) (by decide) ?_
        exact wl_cross C rfl hj (by omega) hrel K H locs ls hP hS hl
      | 17, _ =>
        refine lv_tableIn (tgt := 817) C.1.1 C.1.2.1 dL_law_33 (by decide) (by decide) (off := 784) (by decide) (by decide) ?_
        exact wl_waves C rfl hj (by omega) hrel K H locs ls hP hS hl
      | 18, _ =>
        refine lv_tableIn (tgt := 840) C.1.1 C.1.2.1 dL_law_33 (by decide) (by decide) (off := 807) (by decide) (by decide) ?_
        exact wl_wave C rfl hj (by omega) hrel K H locs ls hP hS hl
      | 19, _ =>
        refine lv_tableIn (tgt := 884) C.1.1 C.1.2.1 dL_law_33 (by decide) (by decide) (off := 851) (by decide) (by decide) ?_
        exact wl_third C rfl hj (by omega) hrel K H locs ls hP hS hl
      | 20, _ =>
        refine lv_tableIn (tgt := 918) C.1.1 C.1.2.1 dL_law_33 (by decide) (by decide) (off := 885) (by decide) (by decide) ?_
        exact wl_groups C rfl hj (by omega) hrel K H locs ls hP hS hl
      | 21, _ =>
        refine lv_tableIn (tgt := 991) C.1.1 C.1.2.1 dL_law_33 (by decide) (by decide) (off := 958) (by decide) (by decide) ?_
        exact wl_heading C rfl hj (by omega) hrel K H locs ls hP hS hl
      | 22, _ =>
        refine lv_tableIn (tgt := 1044) C.1.1 C.1.2.1 dL_law_33 (by decide) (by decide) (off := 1011) (by decide) (by decide) ?_
        exact wl_send C rfl hj (by omega) hrel K H locs ls hP hS hl
      | 23, _ =>
        refine lv_tableIn (tgt := 1067) C.1.1 C.1.2.1 dL_law_33 (by decide) (by decide) (off := 1034) (by decide) (by decide) ?_
        exact wl_miss C rfl hj (by omega) hrel K H locs ls hP hS hl
      | 24, _ =>
        refine lv_tableIn (tgt := 1090) C.1.1 C.1.2.1 dL_law_33 (by decide) (by decide) (off := 1057) (by decide) (by decide) ?_
        exact wl_receive C rfl hj (by omega) hrel K H locs ls hP hS hl
      | 25, _ =>
        refine lv_tableIn (tgt := 1113) C.1.1 C.1.2.1 dL_law_33 (by decide) (by decide) (off := 1080) (by decide) (by decide) ?_
        exact wl_rule C rfl hj (by omega) hrel K H locs ls hP hS hl
      | 26, _ =>
        refine lv_tableIn (tgt := 1156) C.1.1 C.1.2.1 dL_law_33 (by decide) (by decide) (off := 1123) (by decide) (by decide) ?_
        exact wl_hear C rfl hj (by omega) hrel K H locs ls hP hS hl
      | 27, _ =>
        refine lv_tableIn (tgt := 1179) C.1.1 C.1.2.1 dL_law_33 (by decide) (by decide) (off := 1146) (by decide) (by decide) ?_
        exact wl_anchor C rfl hj (by omega) hrel K H locs ls hP hS hl
      | 28, _ =>
        refine lv_tableIn (tgt := 1232) C.1.1 C.1.2.1 dL_law_33 (by decide) (by decide) (off := 1199) (by decide) (by decide) ?_
        exact wl_fix C rfl hj (by omega) hrel K H locs ls hP hS hl
      | 29, _ =>
        refine lv_tableIn (tgt := 1265) C.1.1 C.1.2.1 dL_law_33 (by decide) (by decide) (off := 1232) (by decide) (by decide) ?_
        exact wl_count C rfl hj (by omega) hrel K H locs ls hP hS hl
      | 30, _ =>
        refine lv_tableIn (tgt := 1288) C.1.1 C.1.2.1 dL_law_33 (by decide) (by decide) (off := 1255) (by decide) (by decide) ?_
        exact wl_digest C rfl hj (by omega) hrel K H locs ls hP hS hl
      | 31, _ =>
        refine lv_tableOut (tgt := 1302) C.1.1 C.1.2.1 dL_law_33 (by decide) (by decide) ?_
        exact K μ hrel.up H locs ls hP hS hl
      | n + 32, h => exact absurd h (by omega)
end LOOP
