/-! MAKING: the words of the constructors, a new array of a known class, and the contracts of the inner constructors -/
theorem mo0 : Cond.methodLink RX0 1 objectInit ∈ wT := tm 124 (by decide +kernel) (by decide +kernel)
theorem mo1 : Cond.methodLink RX1 1 objectInit ∈ wT := tm 86 (by decide +kernel) (by decide +kernel)
theorem mo2 : Cond.methodLink RX2 3 objectInit ∈ wT := tm 63 (by decide +kernel) (by decide +kernel)
theorem mo3 : Cond.methodLink RX3 3 objectInit ∈ wT := tm 35 (by decide +kernel) (by decide +kernel)
theorem mo4 : Cond.methodLink RX4 1 objectInit ∈ wT := tm 101 (by decide +kernel) (by decide +kernel)
theorem mo5 : Cond.methodLink RX5 1 objectInit ∈ wT := tm 26 (by decide +kernel) (by decide +kernel)
theorem moI : Cond.instanceMethod objectInit ∈ wT := tm 27 (by decide +kernel) (by decide +kernel)
theorem moC : Cond.code objectInit ⟨#[0xb1]⟩ 1 none ∈ wT := tm 28 (by decide +kernel) (by decide +kernel)
theorem ac_int : Cond.arrayClass .int ∈ wT := tm 55 (by decide +kernel) (by decide +kernel)
theorem ac_boolean : Cond.arrayClass .boolean ∈ wT := tm 56 (by decide +kernel) (by decide +kernel)
theorem ac_long : Cond.arrayClass .long ∈ wT := tm 80 (by decide +kernel) (by decide +kernel)
theorem clL_10 : Cond.classLink RL 10 RX5 ∈ wT := tm 21 (by decide +kernel) (by decide +kernel)
theorem iaX5 : Cond.instantiable RX5 5 ∈ wT := tm 22 (by decide +kernel) (by decide +kernel)
theorem clX5_9 : Cond.classLink RX5 9 RX3 ∈ wT := tm 29 (by decide +kernel) (by decide +kernel)
theorem iaX3 : Cond.instantiable RX3 6 ∈ wT := tm 31 (by decide +kernel) (by decide +kernel)
theorem clX5_16 : Cond.classLink RX5 16 RX2 ∈ wT := tm 57 (by decide +kernel) (by decide +kernel)
theorem iaX2 : Cond.instantiable RX2 5 ∈ wT := tm 59 (by decide +kernel) (by decide +kernel)
theorem clX5_23 : Cond.classLink RX5 23 RX1 ∈ wT := tm 81 (by decide +kernel) (by decide +kernel)
theorem iaX1 : Cond.instantiable RX1 2 ∈ wT := tm 82 (by decide +kernel) (by decide +kernel)
theorem clX1_7 : Cond.classLink RX1 7 RX3 ∈ wT := tm 87 (by decide +kernel) (by decide +kernel)
theorem clX5_30 : Cond.classLink RX5 30 RX4 ∈ wT := tm 96 (by decide +kernel) (by decide +kernel)
theorem iaX4 : Cond.instantiable RX4 7 ∈ wT := tm 97 (by decide +kernel) (by decide +kernel)
theorem clX5_37 : Cond.classLink RX5 37 RX0 ∈ wT := tm 119 (by decide +kernel) (by decide +kernel)
theorem iaX0 : Cond.instantiable RX0 10 ∈ wT := tm 120 (by decide +kernel) (by decide +kernel)
theorem in0 : Cond.initialized RX0 ∈ wT := tm 17 (by decide +kernel) (by decide +kernel)
theorem co0 : Cond.code yX0_init cX0_init 1 none ∈ wT := tm 123 (by decide +kernel) (by decide +kernel)
theorem im0 : Cond.instanceMethod yX0_init ∈ wT := tm 122 (by decide +kernel) (by decide +kernel)
theorem in1 : Cond.initialized RX1 ∈ wT := tm 15 (by decide +kernel) (by decide +kernel)
theorem co1 : Cond.code yX1_init cX1_init 1 none ∈ wT := tm 85 (by decide +kernel) (by decide +kernel)
theorem im1 : Cond.instanceMethod yX1_init ∈ wT := tm 84 (by decide +kernel) (by decide +kernel)
theorem in2 : Cond.initialized RX2 ∈ wT := tm 14 (by decide +kernel) (by decide +kernel)
theorem co2 : Cond.code yX2_init cX2_init 1 none ∈ wT := tm 62 (by decide +kernel) (by decide +kernel)
theorem im2 : Cond.instanceMethod yX2_init ∈ wT := tm 61 (by decide +kernel) (by decide +kernel)
theorem in3 : Cond.initialized RX3 ∈ wT := tm 13 (by decide +kernel) (by decide +kernel)
theorem co3 : Cond.code yX3_init cX3_init 1 none ∈ wT := tm 34 (by decide +kernel) (by decide +kernel)
theorem im3 : Cond.instanceMethod yX3_init ∈ wT := tm 33 (by decide +kernel) (by decide +kernel)
theorem in4 : Cond.initialized RX4 ∈ wT := tm 16 (by decide +kernel) (by decide +kernel)
theorem co4 : Cond.code yX4_init cX4_init 1 none ∈ wT := tm 100 (by decide +kernel) (by decide +kernel)
theorem im4 : Cond.instanceMethod yX4_init ∈ wT := tm 99 (by decide +kernel) (by decide +kernel)
theorem in5 : Cond.initialized RX5 ∈ wT := tm 12 (by decide +kernel) (by decide +kernel)
theorem co5 : Cond.code yX5_init cX5_init 2 none ∈ wT := tm 25 (by decide +kernel) (by decide +kernel)
theorem im5 : Cond.instanceMethod yX5_init ∈ wT := tm 24 (by decide +kernel) (by decide +kernel)
theorem fl0_7 : Cond.fieldLink RX0 7 "WaveBuoys$Mooring" "patience" "I" ∈ wT := tm 125 (by decide +kernel) (by decide +kernel)
theorem fl1_10 : Cond.fieldLink RX1 10 "WaveBuoys$Packs" "sent" "LWaveBuoys$Sheet;" ∈ wT := tm 89 (by decide +kernel) (by decide +kernel)
theorem fl1_16 : Cond.fieldLink RX1 16 "WaveBuoys$Packs" "lost" "[Z" ∈ wT := tm 90 (by decide +kernel) (by decide +kernel)
theorem fl2_9 : Cond.fieldLink RX2 9 "WaveBuoys$Row" "values" "[J" ∈ wT := tm 65 (by decide +kernel) (by decide +kernel)
theorem fl2_15 : Cond.fieldLink RX2 15 "WaveBuoys$Row" "fresh" "[J" ∈ wT := tm 66 (by decide +kernel) (by decide +kernel)
theorem fl2_18 : Cond.fieldLink RX2 18 "WaveBuoys$Row" "ups" "[I" ∈ wT := tm 67 (by decide +kernel) (by decide +kernel)
theorem fl2_22 : Cond.fieldLink RX2 22 "WaveBuoys$Row" "heights" "[J" ∈ wT := tm 68 (by decide +kernel) (by decide +kernel)
theorem fl3_9 : Cond.fieldLink RX3 9 "WaveBuoys$Sheet" "values" "[I" ∈ wT := tm 39 (by decide +kernel) (by decide +kernel)
theorem fl3_15 : Cond.fieldLink RX3 15 "WaveBuoys$Sheet" "states" "[I" ∈ wT := tm 40 (by decide +kernel) (by decide +kernel)
theorem fl3_18 : Cond.fieldLink RX3 18 "WaveBuoys$Sheet" "spiky" "[Z" ∈ wT := tm 41 (by decide +kernel) (by decide +kernel)
theorem fl4_7 : Cond.fieldLink RX4 7 "WaveBuoys$Warning" "on" "I" ∈ wT := tm 102 (by decide +kernel) (by decide +kernel)
theorem fl4_13 : Cond.fieldLink RX4 13 "WaveBuoys$Warning" "off" "I" ∈ wT := tm 103 (by decide +kernel) (by decide +kernel)
theorem fl5_11 : Cond.fieldLink RX5 11 "WaveBuoys" "sheets" "[LWaveBuoys$Sheet;" ∈ wT := tm 147 (by decide +kernel) (by decide +kernel)
theorem fl5_18 : Cond.fieldLink RX5 18 "WaveBuoys" "rows" "[LWaveBuoys$Row;" ∈ wT := tm 148 (by decide +kernel) (by decide +kernel)
theorem fl5_26 : Cond.fieldLink RX5 26 "WaveBuoys" "packs" "LWaveBuoys$Packs;" ∈ wT := tm 149 (by decide +kernel) (by decide +kernel)
theorem fl5_33 : Cond.fieldLink RX5 33 "WaveBuoys" "warning" "LWaveBuoys$Warning;" ∈ wT := tm 150 (by decide +kernel) (by decide +kernel)
theorem fl5_40 : Cond.fieldLink RX5 40 "WaveBuoys" "mooring" "LWaveBuoys$Mooring;" ∈ wT := tm 151 (by decide +kernel) (by decide +kernel)
def kW (G : WG) (U : State) : Prop := wK G U ∧ va_Nw (.methodLinkNest RX5 15 yX3_init RX5) U ∧ va_Nw (.methodLinkNest RX5 22 yX2_init RX5) U ∧ va_Nw (.methodLinkNest RX5 25 yX1_init RX5) U ∧ va_Nw (.methodLinkNest RX1 9 yX3_init RX5) U ∧ va_Nw (.methodLinkNest RX5 32 yX4_init RX5) U ∧ va_Nw (.methodLinkNest RX5 39 yX0_init RX5) U ∧ va_AO RX3 U ∧ va_AO RX2 U
theorem kW.warm {G : WG} {s U : State} (hW : s.WarmedH U.vm) (h : kW G s) : kW G U := ⟨h.1.warm hW, va_Nw.warmM hW h.2.1, va_Nw.warmM hW h.2.2.1, va_Nw.warmM hW h.2.2.2.1, va_Nw.warmM hW h.2.2.2.2.1, va_Nw.warmM hW h.2.2.2.2.2.1, va_Nw.warmM hW h.2.2.2.2.2.2.1, h.2.2.2.2.2.2.2.1.moved hW.alike, h.2.2.2.2.2.2.2.2.moved hW.alike⟩
theorem kW.calling {G : WG} {U : State} {g : JFrame} {mk : MethodId} {a : Array Value} (h : kW G U) : kW G (U.calling g mk a) := ⟨h.1.calling, va_Nw.same rfl rfl h.2.1, va_Nw.same rfl rfl h.2.2.1, va_Nw.same rfl rfl h.2.2.2.1, va_Nw.same rfl rfl h.2.2.2.2.1, va_Nw.same rfl rfl h.2.2.2.2.2.1, va_Nw.same rfl rfl h.2.2.2.2.2.2.1, va_AO.moved (u := U) (U := U.calling g mk a) (Vm.Alike.refl U.vm) h.2.2.2.2.2.2.2.1, va_AO.moved (u := U) (U := U.calling g mk a) (Vm.Alike.refl U.vm) h.2.2.2.2.2.2.2.2⟩
theorem kW.nX5_15 {G : WG} {U : State} (h : kW G U) : va_Nw (.methodLinkNest RX5 15 yX3_init RX5) U := h.2.1
theorem kW.nX5_22 {G : WG} {U : State} (h : kW G U) : va_Nw (.methodLinkNest RX5 22 yX2_init RX5) U := h.2.2.1
theorem kW.nX5_25 {G : WG} {U : State} (h : kW G U) : va_Nw (.methodLinkNest RX5 25 yX1_init RX5) U := h.2.2.2.1
theorem kW.nX1_9 {G : WG} {U : State} (h : kW G U) : va_Nw (.methodLinkNest RX1 9 yX3_init RX5) U := h.2.2.2.2.1
theorem kW.nX5_32 {G : WG} {U : State} (h : kW G U) : va_Nw (.methodLinkNest RX5 32 yX4_init RX5) U := h.2.2.2.2.2.1
theorem kW.nX5_39 {G : WG} {U : State} (h : kW G U) : va_Nw (.methodLinkNest RX5 39 yX0_init RX5) U := h.2.2.2.2.2.2.1
theorem kW.aS {G : WG} {U : State} (h : kW G U) : va_AO RX3 U := h.2.2.2.2.2.2.2.1
theorem kW.aR {G : WG} {U : State} (h : kW G U) : va_AO RX2 U := h.2.2.2.2.2.2.2.2
section WX
variable {p : Program} {l : Launch} {e : Env} {R : Room} {s : State} {m : MethodId} {args : Array Value} {below : List Frame} {meth : Method} {c : Code} {H : Heap} {locs : List Loc} {cells slots : Nat} {Q : State → Prop}
variable {cc : ByteArray} {pc : Nat} {ls : Array Slot} {rest : List Value} {G : WG} {A : Nat → Prop} {ws : va_W} {H0 : Heap}
/-- a new array: its class is the one that G has -/
theorem wx_newa (hexec : p.tables.exec = Jvm.exec) (hb : c.code = cc) {atype : ArrayType} {ty : FieldType} (k : Nat) (harr : (Cond.arrayClass (newarray.typeOf atype)).before args s = true) (hty : newarray.typeOf atype = ty) (hk : (wTys G)[k]? = some (G.2.2 k, ty)) (hp : ∀ c', va_RA s c' ty → s.vm.findClass ("[" ++ ty.toString) = some c') (hK : kW G s) (hP : va_P G.1 vwCl ws H) (hD : va_D A ws) (hS : va_S A H0 H locs) (hA : ∀ q, H0.size ≤ q → A q)
    {n : Int32} {N' : Nat} {a0 : vp_A} (ha : ∀ cA : ClassId, vp_cell cA a0 = arrV cA N' (fun _ => defaultValue ty)) (hn : ¬ n < 0) (hN : n.toNatClampNeg = N') (hbytes : N' * componentBytes ty ≤ 536870912) (hcells : cells + 1 ≤ R.cells) (hslots : slots + N' ≤ R.slots) (hdg : decode cc pc = .ok (.newarray atype, 2))
    (kk : ∀ (q : Nat) (H1 : Heap), va_P G.1 vwCl (ws ++ [(q, .inl (G.2.2 k, a0))]) H1 → va_D A (ws ++ [(q, .inl (G.2.2 k, a0))]) → va_S A H0 H1 locs →
      W p l e R s m args below meth c H1 locs (cells + 1) (slots + N') Q (F0 m (pc + 2) ls (.ref q :: rest))) : W p l e R s m args below meth c H locs cells slots Q (F0 m pc ls (.int n :: rest)) := by
  refine va_newa hexec hb harr hty hK.1.1 hP hD hS hA ha hn hN hbytes hcells hslots hdg (fun q cA H1 hK1 hP1 hD1 hS1 => ?_)
  have h1 := (hK1.2 5 (cA, ty) rfl).2
  have h2 := (hK.1.1.2 k _ hk).2
  have e_ : cA = G.2.2 k := Option.some.inj ((hp _ h1).symm.trans (hp _ h2))
  subst e_
  exact kk q H1 hP1 hD1 hS1
/-- a new array of references -/
theorem wx_newq (hexec : p.tables.exec = Jvm.exec) (hb : c.code = cc) {own C : String} {index : Nat} (k : Nat) (hown : s.vm.findClass own = some m.cls) (hclink : (Cond.classLink own index C).before args s = true) (hover : va_AO C s) (hk : (wTys G)[k]? = some (G.2.2 k, .object C)) (hK : kW G s) (hP : va_P G.1 vwCl ws H) (hD : va_D A ws) (hS : va_S A H0 H locs) (hA : ∀ q, H0.size ≤ q → A q)
    {n : Int32} {N' : Nat} (hn : ¬ n < 0) (hN : n.toNatClampNeg = N') (hbytes : N' * 4 ≤ 536870912) (hcells : cells + 1 ≤ R.cells) (hslots : slots + N' ≤ R.slots) (hdg : decode cc pc = .ok (.anewarray index, 3))
    (kk : ∀ (q : Nat) (H1 : Heap), va_P G.1 vwCl (ws ++ [(q, .inl (G.2.2 k, N', .inr (.inr (.inr (.inr (fun _ => none))))))]) H1 → va_D A (ws ++ [(q, .inl (G.2.2 k, N', .inr (.inr (.inr (.inr (fun _ => none))))))]) → va_S A H0 H1 locs →
      W p l e R s m args below meth c H1 locs (cells + 1) (slots + N') Q (F0 m (pc + 3) ls (.ref q :: rest))) : W p l e R s m args below meth c H locs cells slots Q (F0 m pc ls (.int n :: rest)) := by
  refine va_newq hexec hb hown hclink hover hK.1.1 hP hD hS hA hn hN hbytes hcells hslots hdg (fun q cA H1 hK1 hP1 hD1 hS1 => ?_)
  obtain ⟨_, _, _, _, _, h1⟩ := (hK1.2 5 (cA, .object C) rfl).2
  obtain ⟨_, _, _, _, _, h2⟩ := (hK.1.1.2 k _ hk).2
  have e_ : cA = G.2.2 k := Option.some.inj (h1.symm.trans h2)
  subst e_
  exact kk q H1 hP1 hD1 hS1
end WX
section WJ
variable {A0 : Nat → Prop} {D : va_G} {cl : List vw_C} {wr w1 : va_W} {x : Nat × va_E} {H H0 H1 : Heap} {locs : List Loc}
theorem wx_last : [wr.length].map (fun i => (wr ++ [x])[i]?) = [x].map some := by
  simp
theorem wx_range : ∀ (w : va_W) (y : va_W), (List.range w.length).map (fun i => (w ++ y)[i]?) = w.map some := by
  intro w y
  apply List.ext_getElem?
  intro i
  rw [List.getElem?_map, List.getElem?_map]
  by_cases h : i < w.length
  · rw [List.getElem?_range h, Option.map_some, List.getElem?_append_left h]
    cases hx : w[i]? with
    | none => exact absurd (List.getElem?_eq_none_iff.mp hx) (by omega)
    | some v => rfl
  · rw [List.getElem?_eq_none (by simp; omega), List.getElem?_eq_none (by omega)]
    rfl
theorem va_nd_of : ∀ (l : List Nat), l.Nodup → va_nd l = true
  | [], _ => rfl
  | a :: l, h => by
    have h' := List.nodup_cons.mp h
    rw [va_nd, va_nd_of l h'.2]
    simp [h'.1]
theorem wx_P (hP : va_P D cl (wr ++ [x]) H) : va_P D cl [x] H := hP.sub [wr.length] (by simp)
theorem wx_D (hD : va_D A0 (wr ++ [x])) : va_D (fun _ => True) [x] := (hD.sub [wr.length] rfl wx_last).weaken (fun _ _ _ _ => trivial)
theorem wx_F (hD : va_D A0 (wr ++ [x])) (hS : va_S A0 H0 H locs) (hA : ∀ q, H0.size ≤ q → A0 q) : ∀ q, va_A [x] H.size q → A0 q := va_free hD hS hA [wr.length] wx_last
theorem wx_join (hP : va_P D cl (wr ++ [x]) H) (hD : va_D A0 (wr ++ [x])) (hk : ∀ q : Nat, q < H.size → ¬ va_A [x] H.size q → H1[q]? = H[q]?) (hF : ∀ q, va_A [x] H.size q → A0 q) (hP1 : va_P D cl w1 H1) (hD1 : va_D (va_A [x] H.size) w1) : va_P D cl (wr ++ w1) H1 ∧ va_D A0 (wr ++ w1) :=
  va_join hP hD [wr.length] (List.range wr.length) wx_last (wx_range wr [x]) (va_nd_of _ List.nodup_range) (fun i hi q => by
    have h1 := List.mem_range.mp hi
    have h2 := List.mem_singleton.mp q
    omega) hk hF hP1 hD1
end WJ
theorem kx_blind {G : WG} {h0 sz : Nat} {e0 : va_E} : FrameBlind (va_Pc [.ref h0] (fun U => U.heap.size = sz ∧ va_P G.1 vwCl [(h0, e0)] U.heap ∧ kW G U ∧ va_D (fun _ => True) [(h0, e0)])) := fun a U g mk q => by
  obtain ⟨q0, q1, qP, qK, qD⟩ := q
  exact ⟨q0, q1, qP, qK.calling, qD⟩
def wX0 (_ : WG) (h0 : Nat) (_ : List Nat) : va_W := [(h0, .inr (0, [.long 0, .long 0, .long 0, .int (nI 1), .int 0, .int 0, .int 0, .int 0, .int 0, .int 0]))]
def bX0 : va_E := .inr (0, [.long 0, .long 0, .long 0, .int 0, .int 0, .int 0, .int 0, .int 0, .int 0, .int 0])
set_option maxHeartbeats 4000000 in
set_option maxRecDepth 100000 in
theorem c_X0 (l : Launch) (G : WG) (h0 sz : Nat) : Met l yX0_init (wsM kX0_init) ({ frames := 1, cells := 0, slots := 0, locals := 12 }) (va_Pc [.ref h0] (fun U => U.heap.size = sz ∧ va_P G.1 vwCl [(h0, bX0)] U.heap ∧ kW G U ∧ va_D (fun _ => True) [(h0, bX0)])) (va_Qv (fun _ : List Nat => True) (fun u t => va_P G.1 vwCl (wX0 G h0 u) t.heap ∧ va_D (va_A [(h0, bX0)] sz) (wX0 G h0 u)) (va_A [(h0, bX0)] sz)) 0 0 (va_A [(h0, bX0)] sz) := by
  refine Met.ofW (cc := cX0_init) (maxL := 1) (ret := none) (by decide) rfl ?_
  intro p e s m args below meth c s₁ B hml hv
  obtain ⟨rfl, hsz, hP, hK, hD0⟩ := hv
  have hx := B.exec
  have hb := B.bytes
  have hr := B.returns
  have hts := atoms_spec (ws := wsM kX0_init) B.pre
  have hw : ∀ {w : Cond}, w ∈ wT → w.before _ s = true := fun h => hts _ (List.mem_cons_of_mem _ h)
  have hown : s.vm.findClass RX0 = some m.cls := findClass_of_methodNamed B.named
  have hlocks := B.notSynchronized
  have hin : meth.name = "<init>" := (name_of_methodNamed B.named B.method).1
  subst hsz
  have hD := hD0.self (sz := s.heap.size)
  generalize hAe : va_A [(h0, bX0)] s.heap.size = A at hD ⊢
  have hA : ∀ q : Nat, s.heap.size ≤ q → A q := fun q h => by rw [← hAe]; exact Or.inr h
  have hS : va_S A s.heap s.heap [] := va_S.rf
  have hP : va_P G.1 vwCl [(h0, .inr (0, [.long 0, .long 0, .long 0, .int 0, .int 0, .int 0, .int 0, .int 0, .int 0, .int 0]))] s.heap := hP
  have hD : va_D A [(h0, .inr (0, [.long 0, .long 0, .long 0, .int 0, .int 0, .int 0, .int 0, .int 0, .int 0, .int 0]))] := hD
  have hl := lv_entry ([.ref h0]) (n := 1) (Nat.le_of_ble_eq_true rfl)
  rw [lg_entry_eq]
  generalize (lg_sl ([.ref h0]) ++ List.replicate (1 - (lg_sl ([.ref h0])).length) Slot.unset).toArray = ls at hl ⊢
  have hl : lv_has ls 1 [(0, .ref h0)] := hl
  refine lv_aload_n hx hb dX0_init_0 rfl (lv_at hl 0 rfl) ?_
  refine W.objInit hx hb hown (hw mo0) (hw moI) (hw moC) rfl (by rw [hml]; exact hl.1) rfl dX0_init_1 (Nat.le_of_ble_eq_true rfl) (Nat.le_of_ble_eq_true rfl) ?_
  refine W.eq (g2 := F0 m 4 ls []) rfl ?_
  refine lv_aload_n hx hb dX0_init_4 rfl (lv_at hl 0 rfl) ?_
  refine lv_iconst (v := nI 1) hx hb dX0_init_5 (by decide) ?_
  refine va_put (D := G.1) (ci := 0) (v := .int (nI 1)) (ty := .int) (C := RX0) (T := TX0) (N := 10) hx hb hts (fun w h => List.mem_cons_of_mem _ (uw0 w h)) tyX0 tyX0_ok nmX0 hown hK.1.1 hP hD hS 0 rfl rfl 3 (by decide) (hw fl0_7) (fun _ h9 => h9) rfl (by decide +kernel) rfl rfl (Nat.le_of_ble_eq_true rfl) dX0_init_6 (fun H locs hP hD hS => ?_)
  have hP : va_P G.1 vwCl [(h0, .inr (0, [.long 0, .long 0, .long 0, .int (nI 1), .int 0, .int 0, .int 0, .int 0, .int 0, .int 0]))] H := hP
  have hD : va_D A [(h0, .inr (0, [.long 0, .long 0, .long 0, .int (nI 1), .int 0, .int 0, .int 0, .int 0, .int 0, .int 0]))] := hD
  exact W.vret hx hb hr (fun t ht hW => ⟨⟨[], rfl, trivial, by rw [ht]; exact hP, hD⟩, hS.F ht⟩) hS.2.2 dX0_init_9 hlocks
def wX4 (_ : WG) (h0 : Nat) (_ : List Nat) : va_W := [(h0, .inr (4, [.int (nI 100), .int (nI 50), .int 0, .int 0, .int 0, .int 0, .int 0]))]
def bX4 : va_E := .inr (4, [.int 0, .int 0, .int 0, .int 0, .int 0, .int 0, .int 0])
set_option maxHeartbeats 4000000 in
set_option maxRecDepth 100000 in
theorem c_X4 (l : Launch) (G : WG) (h0 sz : Nat) : Met l yX4_init (wsM kX4_init) ({ frames := 1, cells := 0, slots := 0, locals := 12 }) (va_Pc [.ref h0] (fun U => U.heap.size = sz ∧ va_P G.1 vwCl [(h0, bX4)] U.heap ∧ kW G U ∧ va_D (fun _ => True) [(h0, bX4)])) (va_Qv (fun _ : List Nat => True) (fun u t => va_P G.1 vwCl (wX4 G h0 u) t.heap ∧ va_D (va_A [(h0, bX4)] sz) (wX4 G h0 u)) (va_A [(h0, bX4)] sz)) 0 0 (va_A [(h0, bX4)] sz) := by
  refine Met.ofW (cc := cX4_init) (maxL := 1) (ret := none) (by decide) rfl ?_
  intro p e s m args below meth c s₁ B hml hv
  obtain ⟨rfl, hsz, hP, hK, hD0⟩ := hv
  have hx := B.exec
  have hb := B.bytes
  have hr := B.returns
  have hts := atoms_spec (ws := wsM kX4_init) B.pre
  have hw : ∀ {w : Cond}, w ∈ wT → w.before _ s = true := fun h => hts _ (List.mem_cons_of_mem _ h)
  have hown : s.vm.findClass RX4 = some m.cls := findClass_of_methodNamed B.named
  have hlocks := B.notSynchronized
  have hin : meth.name = "<init>" := (name_of_methodNamed B.named B.method).1
  subst hsz
  have hD := hD0.self (sz := s.heap.size)
  generalize hAe : va_A [(h0, bX4)] s.heap.size = A at hD ⊢
  have hA : ∀ q : Nat, s.heap.size ≤ q → A q := fun q h => by rw [← hAe]; exact Or.inr h
  have hS : va_S A s.heap s.heap [] := va_S.rf
  have hP : va_P G.1 vwCl [(h0, .inr (4, [.int 0, .int 0, .int 0, .int 0, .int 0, .int 0, .int 0]))] s.heap := hP
  have hD : va_D A [(h0, .inr (4, [.int 0, .int 0, .int 0, .int 0, .int 0, .int 0, .int 0]))] := hD
  have hl := lv_entry ([.ref h0]) (n := 1) (Nat.le_of_ble_eq_true rfl)
  rw [lg_entry_eq]
  generalize (lg_sl ([.ref h0]) ++ List.replicate (1 - (lg_sl ([.ref h0])).length) Slot.unset).toArray = ls at hl ⊢
  have hl : lv_has ls 1 [(0, .ref h0)] := hl
  refine lv_aload_n hx hb dX4_init_0 rfl (lv_at hl 0 rfl) ?_
  refine W.objInit hx hb hown (hw mo4) (hw moI) (hw moC) rfl (by rw [hml]; exact hl.1) rfl dX4_init_1 (Nat.le_of_ble_eq_true rfl) (Nat.le_of_ble_eq_true rfl) ?_
  refine W.eq (g2 := F0 m 4 ls []) rfl ?_
  refine lv_aload_n hx hb dX4_init_4 rfl (lv_at hl 0 rfl) ?_
  refine lv_bipush (v := nI 100) hx hb dX4_init_5 (by decide) ?_
  refine va_put (D := G.1) (ci := 4) (v := .int (nI 100)) (ty := .int) (C := RX4) (T := TX4) (N := 7) hx hb hts (fun w h => List.mem_cons_of_mem _ (uw4 w h)) tyX4 tyX4_ok nmX4 hown hK.1.1 hP hD hS 0 rfl rfl 0 (by decide) (hw fl4_7) (fun _ h9 => h9) rfl (by decide +kernel) rfl rfl (Nat.le_of_ble_eq_true rfl) dX4_init_7 (fun H locs hP hD hS => ?_)
  have hP : va_P G.1 vwCl [(h0, .inr (4, [.int (nI 100), .int 0, .int 0, .int 0, .int 0, .int 0, .int 0]))] H := hP
  have hD : va_D A [(h0, .inr (4, [.int (nI 100), .int 0, .int 0, .int 0, .int 0, .int 0, .int 0]))] := hD
  refine lv_aload_n hx hb dX4_init_10 rfl (lv_at hl 0 rfl) ?_
  refine lv_bipush (v := nI 50) hx hb dX4_init_11 (by decide) ?_
  refine va_put (D := G.1) (ci := 4) (v := .int (nI 50)) (ty := .int) (C := RX4) (T := TX4) (N := 7) hx hb hts (fun w h => List.mem_cons_of_mem _ (uw4 w h)) tyX4 tyX4_ok nmX4 hown hK.1.1 hP hD hS 0 rfl rfl 1 (by decide) (hw fl4_13) (fun _ h9 => h9) rfl (by decide +kernel) rfl rfl (Nat.le_of_ble_eq_true rfl) dX4_init_13 (fun H locs hP hD hS => ?_)
  have hP : va_P G.1 vwCl [(h0, .inr (4, [.int (nI 100), .int (nI 50), .int 0, .int 0, .int 0, .int 0, .int 0]))] H := hP
  have hD : va_D A [(h0, .inr (4, [.int (nI 100), .int (nI 50), .int 0, .int 0, .int 0, .int 0, .int 0]))] := hD
  exact W.vret hx hb hr (fun t ht hW => ⟨⟨[], rfl, trivial, by rw [ht]; exact hP, hD⟩, hS.F ht⟩) hS.2.2 dX4_init_16 hlocks
def wX3 (G : WG) (h0 : Nat) (u : List Nat) : va_W := [(h0, .inr (3, [.int 0, .int 0, .int 0, .ref (u.getD 0 0), .ref (u.getD 1 0), .ref (u.getD 2 0)])), (u.getD 0 0, .inl (G.2.2 1, 64, .inl (fun _ => nI 0))), (u.getD 1 0, .inl (G.2.2 1, 64, .inl (fun _ => nI 0))), (u.getD 2 0, .inl (G.2.2 0, 64, .inl (fun _ => nI 0)))]
def bX3 : va_E := .inr (3, [.int 0, .int 0, .int 0, .null, .null, .null])
set_option maxHeartbeats 4000000 in
set_option maxRecDepth 100000 in
theorem c_X3 (l : Launch) (G : WG) (h0 sz : Nat) : Met l yX3_init (wsM kX3_init) ({ frames := 1, cells := 3, slots := 192, locals := 12 }) (va_Pc [.ref h0] (fun U => U.heap.size = sz ∧ va_P G.1 vwCl [(h0, bX3)] U.heap ∧ kW G U ∧ va_D (fun _ => True) [(h0, bX3)])) (va_Qv (fun _ : List Nat => True) (fun u t => va_P G.1 vwCl (wX3 G h0 u) t.heap ∧ va_D (va_A [(h0, bX3)] sz) (wX3 G h0 u)) (va_A [(h0, bX3)] sz)) 3 192 (va_A [(h0, bX3)] sz) := by
  refine Met.ofW (cc := cX3_init) (maxL := 1) (ret := none) (by decide) rfl ?_
  intro p e s m args below meth c s₁ B hml hv
  obtain ⟨rfl, hsz, hP, hK, hD0⟩ := hv
  have hx := B.exec
  have hb := B.bytes
  have hr := B.returns
  have hts := atoms_spec (ws := wsM kX3_init) B.pre
  have hw : ∀ {w : Cond}, w ∈ wT → w.before _ s = true := fun h => hts _ (List.mem_cons_of_mem _ h)
  have hown : s.vm.findClass RX3 = some m.cls := findClass_of_methodNamed B.named
  have hlocks := B.notSynchronized
  have hin : meth.name = "<init>" := (name_of_methodNamed B.named B.method).1
  subst hsz
  have hD := hD0.self (sz := s.heap.size)
  generalize hAe : va_A [(h0, bX3)] s.heap.size = A at hD ⊢
  have hA : ∀ q : Nat, s.heap.size ≤ q → A q := fun q h => by rw [← hAe]; exact Or.inr h
  have hS : va_S A s.heap s.heap [] := va_S.rf
  have hP : va_P G.1 vwCl [(h0, .inr (3, [.int 0, .int 0, .int 0, .null, .null, .null]))] s.heap := hP
  have hD : va_D A [(h0, .inr (3, [.int 0, .int 0, .int 0, .null, .null, .null]))] := hD
  have hl := lv_entry ([.ref h0]) (n := 1) (Nat.le_of_ble_eq_true rfl)
  rw [lg_entry_eq]
  generalize (lg_sl ([.ref h0]) ++ List.replicate (1 - (lg_sl ([.ref h0])).length) Slot.unset).toArray = ls at hl ⊢
  have hl : lv_has ls 1 [(0, .ref h0)] := hl
  refine lv_aload_n hx hb dX3_init_0 rfl (lv_at hl 0 rfl) ?_
  refine W.objInit hx hb hown (hw mo3) (hw moI) (hw moC) rfl (by rw [hml]; exact hl.1) rfl dX3_init_1 (Nat.le_of_ble_eq_true rfl) (Nat.le_of_ble_eq_true rfl) ?_
  refine W.eq (g2 := F0 m 4 ls []) rfl ?_
  refine lv_aload_n hx hb dX3_init_4 rfl (lv_at hl 0 rfl) ?_
  refine lv_bipush (v := nI 64) hx hb dX3_init_5 (by decide) ?_
  refine wx_newa (atype := .int) (N' := 64) (a0 := (64, .inl (fun _ => nI 0))) hx hb 1 (hw ac_int) rfl rfl (fun _ h => h) hK hP hD hS hA (fun _ => rfl) (by decide) (by decide) (Nat.le_of_ble_eq_true rfl) (Nat.le_of_ble_eq_true rfl) (Nat.le_of_ble_eq_true rfl) dX3_init_7 (fun q7 H hP hD hS => ?_)
  have hP : va_P G.1 vwCl [(h0, .inr (3, [.int 0, .int 0, .int 0, .null, .null, .null])), (q7, .inl (G.2.2 1, 64, .inl (fun _ => nI 0)))] H := hP
  have hD : va_D A [(h0, .inr (3, [.int 0, .int 0, .int 0, .null, .null, .null])), (q7, .inl (G.2.2 1, 64, .inl (fun _ => nI 0)))] := hD
  refine W.widen (k := 1) (n := 64) (Nat.le_of_ble_eq_true rfl) (Nat.le_of_ble_eq_true rfl) ?_
  refine va_putF (D := G.1) (ci := 3) (v := .ref q7) (ty := .array .int) (C := RX3) (T := TX3) (N := 6) hx hb hts (fun w h => List.mem_cons_of_mem _ (uw3 w h)) tyX3 tyX3_ok nmX3 hown hK.1.1 hP hD hS 0 rfl rfl 3 (by decide) (hw fl3_9) (fun _ h9 => h9) rfl hin rfl (by decide +kernel) rfl rfl (Nat.le_of_ble_eq_true rfl) dX3_init_9 (fun H locs hP hD hS => ?_)
  have hP : va_P G.1 vwCl [(h0, .inr (3, [.int 0, .int 0, .int 0, .ref q7, .null, .null])), (q7, .inl (G.2.2 1, 64, .inl (fun _ => nI 0)))] H := hP
  have hD : va_D A [(h0, .inr (3, [.int 0, .int 0, .int 0, .ref q7, .null, .null])), (q7, .inl (G.2.2 1, 64, .inl (fun _ => nI 0)))] := hD
  refine lv_aload_n hx hb dX3_init_12 rfl (lv_at hl 0 rfl) ?_
  refine lv_bipush (v := nI 64) hx hb dX3_init_13 (by decide) ?_
  refine wx_newa (atype := .int) (N' := 64) (a0 := (64, .inl (fun _ => nI 0))) hx hb 1 (hw ac_int) rfl rfl (fun _ h => h) hK hP hD hS hA (fun _ => rfl) (by decide) (by decide) (Nat.le_of_ble_eq_true rfl) (Nat.le_of_ble_eq_true rfl) (Nat.le_of_ble_eq_true rfl) dX3_init_15 (fun q15 H hP hD hS => ?_)
  have hP : va_P G.1 vwCl [(h0, .inr (3, [.int 0, .int 0, .int 0, .ref q7, .null, .null])), (q7, .inl (G.2.2 1, 64, .inl (fun _ => nI 0))), (q15, .inl (G.2.2 1, 64, .inl (fun _ => nI 0)))] H := hP
  have hD : va_D A [(h0, .inr (3, [.int 0, .int 0, .int 0, .ref q7, .null, .null])), (q7, .inl (G.2.2 1, 64, .inl (fun _ => nI 0))), (q15, .inl (G.2.2 1, 64, .inl (fun _ => nI 0)))] := hD
  refine W.widen (k := 2) (n := 128) (Nat.le_of_ble_eq_true rfl) (Nat.le_of_ble_eq_true rfl) ?_
  refine va_putF (D := G.1) (ci := 3) (v := .ref q15) (ty := .array .int) (C := RX3) (T := TX3) (N := 6) hx hb hts (fun w h => List.mem_cons_of_mem _ (uw3 w h)) tyX3 tyX3_ok nmX3 hown hK.1.1 hP hD hS 0 rfl rfl 4 (by decide) (hw fl3_15) (fun _ h9 => h9) rfl hin rfl (by decide +kernel) rfl rfl (Nat.le_of_ble_eq_true rfl) dX3_init_17 (fun H locs hP hD hS => ?_)
  have hP : va_P G.1 vwCl [(h0, .inr (3, [.int 0, .int 0, .int 0, .ref q7, .ref q15, .null])), (q7, .inl (G.2.2 1, 64, .inl (fun _ => nI 0))), (q15, .inl (G.2.2 1, 64, .inl (fun _ => nI 0)))] H := hP
  have hD : va_D A [(h0, .inr (3, [.int 0, .int 0, .int 0, .ref q7, .ref q15, .null])), (q7, .inl (G.2.2 1, 64, .inl (fun _ => nI 0))), (q15, .inl (G.2.2 1, 64, .inl (fun _ => nI 0)))] := hD
  refine lv_aload_n hx hb dX3_init_20 rfl (lv_at hl 0 rfl) ?_
  refine lv_bipush (v := nI 64) hx hb dX3_init_21 (by decide) ?_
  refine wx_newa (atype := .boolean) (N' := 64) (a0 := (64, .inl (fun _ => nI 0))) hx hb 0 (hw ac_boolean) rfl rfl (fun _ h => h) hK hP hD hS hA (fun _ => rfl) (by decide) (by decide) (Nat.le_of_ble_eq_true rfl) (Nat.le_of_ble_eq_true rfl) (Nat.le_of_ble_eq_true rfl) dX3_init_23 (fun q23 H hP hD hS => ?_)
  have hP : va_P G.1 vwCl [(h0, .inr (3, [.int 0, .int 0, .int 0, .ref q7, .ref q15, .null])), (q7, .inl (G.2.2 1, 64, .inl (fun _ => nI 0))), (q15, .inl (G.2.2 1, 64, .inl (fun _ => nI 0))), (q23, .inl (G.2.2 0, 64, .inl (fun _ => nI 0)))] H := hP
  have hD : va_D A [(h0, .inr (3, [.int 0, .int 0, .int 0, .ref q7, .ref q15, .null])), (q7, .inl (G.2.2 1, 64, .inl (fun _ => nI 0))), (q15, .inl (G.2.2 1, 64, .inl (fun _ => nI 0))), (q23, .inl (G.2.2 0, 64, .inl (fun _ => nI 0)))] := hD
  refine W.widen (k := 3) (n := 192) (Nat.le_of_ble_eq_true rfl) (Nat.le_of_ble_eq_true rfl) ?_
  refine va_putF (D := G.1) (ci := 3) (v := .ref q23) (ty := .array .boolean) (C := RX3) (T := TX3) (N := 6) hx hb hts (fun w h => List.mem_cons_of_mem _ (uw3 w h)) tyX3 tyX3_ok nmX3 hown hK.1.1 hP hD hS 0 rfl rfl 5 (by decide) (hw fl3_18) (fun _ h9 => h9) rfl hin rfl (by decide +kernel) rfl rfl (Nat.le_of_ble_eq_true rfl) dX3_init_25 (fun H locs hP hD hS => ?_)
  have hP : va_P G.1 vwCl [(h0, .inr (3, [.int 0, .int 0, .int 0, .ref q7, .ref q15, .ref q23])), (q7, .inl (G.2.2 1, 64, .inl (fun _ => nI 0))), (q15, .inl (G.2.2 1, 64, .inl (fun _ => nI 0))), (q23, .inl (G.2.2 0, 64, .inl (fun _ => nI 0)))] H := hP
  have hD : va_D A [(h0, .inr (3, [.int 0, .int 0, .int 0, .ref q7, .ref q15, .ref q23])), (q7, .inl (G.2.2 1, 64, .inl (fun _ => nI 0))), (q15, .inl (G.2.2 1, 64, .inl (fun _ => nI 0))), (q23, .inl (G.2.2 0, 64, .inl (fun _ => nI 0)))] := hD
  exact W.vret hx hb hr (fun t ht hW => ⟨⟨[q7, q15, q23], rfl, trivial, by rw [ht]; exact hP, hD⟩, hS.F ht⟩) hS.2.2 dX3_init_28 hlocks
def wX2 (G : WG) (h0 : Nat) (u : List Nat) : va_W := [(h0, .inr (2, [.int 0, .ref (u.getD 0 0), .ref (u.getD 1 0), .ref (u.getD 2 0), .ref (u.getD 3 0)])), (u.getD 0 0, .inl (G.2.2 2, 64, .inr (.inl (fun _ => 0)))), (u.getD 1 0, .inl (G.2.2 2, 64, .inr (.inl (fun _ => 0)))), (u.getD 2 0, .inl (G.2.2 1, 64, .inl (fun _ => nI 0))), (u.getD 3 0, .inl (G.2.2 2, 64, .inr (.inl (fun _ => 0))))]
def bX2 : va_E := .inr (2, [.int 0, .null, .null, .null, .null])
set_option maxHeartbeats 4000000 in
set_option maxRecDepth 100000 in
theorem c_X2 (l : Launch) (G : WG) (h0 sz : Nat) : Met l yX2_init (wsM kX2_init) ({ frames := 1, cells := 4, slots := 256, locals := 12 }) (va_Pc [.ref h0] (fun U => U.heap.size = sz ∧ va_P G.1 vwCl [(h0, bX2)] U.heap ∧ kW G U ∧ va_D (fun _ => True) [(h0, bX2)])) (va_Qv (fun _ : List Nat => True) (fun u t => va_P G.1 vwCl (wX2 G h0 u) t.heap ∧ va_D (va_A [(h0, bX2)] sz) (wX2 G h0 u)) (va_A [(h0, bX2)] sz)) 4 256 (va_A [(h0, bX2)] sz) := by
  refine Met.ofW (cc := cX2_init) (maxL := 1) (ret := none) (by decide) rfl ?_
  intro p e s m args below meth c s₁ B hml hv
  obtain ⟨rfl, hsz, hP, hK, hD0⟩ := hv
  have hx := B.exec
  have hb := B.bytes
  have hr := B.returns
  have hts := atoms_spec (ws := wsM kX2_init) B.pre
  have hw : ∀ {w : Cond}, w ∈ wT → w.before _ s = true := fun h => hts _ (List.mem_cons_of_mem _ h)
  have hown : s.vm.findClass RX2 = some m.cls := findClass_of_methodNamed B.named
  have hlocks := B.notSynchronized
  have hin : meth.name = "<init>" := (name_of_methodNamed B.named B.method).1
  subst hsz
  have hD := hD0.self (sz := s.heap.size)
  generalize hAe : va_A [(h0, bX2)] s.heap.size = A at hD ⊢
  have hA : ∀ q : Nat, s.heap.size ≤ q → A q := fun q h => by rw [← hAe]; exact Or.inr h
  have hS : va_S A s.heap s.heap [] := va_S.rf
  have hP : va_P G.1 vwCl [(h0, .inr (2, [.int 0, .null, .null, .null, .null]))] s.heap := hP
  have hD : va_D A [(h0, .inr (2, [.int 0, .null, .null, .null, .null]))] := hD
  have hl := lv_entry ([.ref h0]) (n := 1) (Nat.le_of_ble_eq_true rfl)
  rw [lg_entry_eq]
  generalize (lg_sl ([.ref h0]) ++ List.replicate (1 - (lg_sl ([.ref h0])).length) Slot.unset).toArray = ls at hl ⊢
  have hl : lv_has ls 1 [(0, .ref h0)] := hl
  refine lv_aload_n hx hb dX2_init_0 rfl (lv_at hl 0 rfl) ?_
  refine W.objInit hx hb hown (hw mo2) (hw moI) (hw moC) rfl (by rw [hml]; exact hl.1) rfl dX2_init_1 (Nat.le_of_ble_eq_true rfl) (Nat.le_of_ble_eq_true rfl) ?_
  refine W.eq (g2 := F0 m 4 ls []) rfl ?_
  refine lv_aload_n hx hb dX2_init_4 rfl (lv_at hl 0 rfl) ?_
  refine lv_bipush (v := nI 64) hx hb dX2_init_5 (by decide) ?_
  refine wx_newa (atype := .long) (N' := 64) (a0 := (64, .inr (.inl (fun _ => 0)))) hx hb 2 (hw ac_long) rfl rfl (fun _ h => h) hK hP hD hS hA (fun _ => rfl) (by decide) (by decide) (Nat.le_of_ble_eq_true rfl) (Nat.le_of_ble_eq_true rfl) (Nat.le_of_ble_eq_true rfl) dX2_init_7 (fun q7 H hP hD hS => ?_)
  have hP : va_P G.1 vwCl [(h0, .inr (2, [.int 0, .null, .null, .null, .null])), (q7, .inl (G.2.2 2, 64, .inr (.inl (fun _ => 0))))] H := hP
  have hD : va_D A [(h0, .inr (2, [.int 0, .null, .null, .null, .null])), (q7, .inl (G.2.2 2, 64, .inr (.inl (fun _ => 0))))] := hD
  refine W.widen (k := 1) (n := 64) (Nat.le_of_ble_eq_true rfl) (Nat.le_of_ble_eq_true rfl) ?_
  refine va_putF (D := G.1) (ci := 2) (v := .ref q7) (ty := .array .long) (C := RX2) (T := TX2) (N := 5) hx hb hts (fun w h => List.mem_cons_of_mem _ (uw2 w h)) tyX2 tyX2_ok nmX2 hown hK.1.1 hP hD hS 0 rfl rfl 1 (by decide) (hw fl2_9) (fun _ h9 => h9) rfl hin rfl (by decide +kernel) rfl rfl (Nat.le_of_ble_eq_true rfl) dX2_init_9 (fun H locs hP hD hS => ?_)
  have hP : va_P G.1 vwCl [(h0, .inr (2, [.int 0, .ref q7, .null, .null, .null])), (q7, .inl (G.2.2 2, 64, .inr (.inl (fun _ => 0))))] H := hP
  have hD : va_D A [(h0, .inr (2, [.int 0, .ref q7, .null, .null, .null])), (q7, .inl (G.2.2 2, 64, .inr (.inl (fun _ => 0))))] := hD
  refine lv_aload_n hx hb dX2_init_12 rfl (lv_at hl 0 rfl) ?_
  refine lv_bipush (v := nI 64) hx hb dX2_init_13 (by decide) ?_
  refine wx_newa (atype := .long) (N' := 64) (a0 := (64, .inr (.inl (fun _ => 0)))) hx hb 2 (hw ac_long) rfl rfl (fun _ h => h) hK hP hD hS hA (fun _ => rfl) (by decide) (by decide) (Nat.le_of_ble_eq_true rfl) (Nat.le_of_ble_eq_true rfl) (Nat.le_of_ble_eq_true rfl) dX2_init_15 (fun q15 H hP hD hS => ?_)
  have hP : va_P G.1 vwCl [(h0, .inr (2, [.int 0, .ref q7, .null, .null, .null])), (q7, .inl (G.2.2 2, 64, .inr (.inl (fun _ => 0)))), (q15, .inl (G.2.2 2, 64, .inr (.inl (fun _ => 0))))] H := hP
  have hD : va_D A [(h0, .inr (2, [.int 0, .ref q7, .null, .null, .null])), (q7, .inl (G.2.2 2, 64, .inr (.inl (fun _ => 0)))), (q15, .inl (G.2.2 2, 64, .inr (.inl (fun _ => 0))))] := hD
  refine W.widen (k := 2) (n := 128) (Nat.le_of_ble_eq_true rfl) (Nat.le_of_ble_eq_true rfl) ?_
  refine va_putF (D := G.1) (ci := 2) (v := .ref q15) (ty := .array .long) (C := RX2) (T := TX2) (N := 5) hx hb hts (fun w h => List.mem_cons_of_mem _ (uw2 w h)) tyX2 tyX2_ok nmX2 hown hK.1.1 hP hD hS 0 rfl rfl 2 (by decide) (hw fl2_15) (fun _ h9 => h9) rfl hin rfl (by decide +kernel) rfl rfl (Nat.le_of_ble_eq_true rfl) dX2_init_17 (fun H locs hP hD hS => ?_)
  have hP : va_P G.1 vwCl [(h0, .inr (2, [.int 0, .ref q7, .ref q15, .null, .null])), (q7, .inl (G.2.2 2, 64, .inr (.inl (fun _ => 0)))), (q15, .inl (G.2.2 2, 64, .inr (.inl (fun _ => 0))))] H := hP
  have hD : va_D A [(h0, .inr (2, [.int 0, .ref q7, .ref q15, .null, .null])), (q7, .inl (G.2.2 2, 64, .inr (.inl (fun _ => 0)))), (q15, .inl (G.2.2 2, 64, .inr (.inl (fun _ => 0))))] := hD
  refine lv_aload_n hx hb dX2_init_20 rfl (lv_at hl 0 rfl) ?_
  refine lv_bipush (v := nI 64) hx hb dX2_init_21 (by decide) ?_
  refine wx_newa (atype := .int) (N' := 64) (a0 := (64, .inl (fun _ => nI 0))) hx hb 1 (hw ac_int) rfl rfl (fun _ h => h) hK hP hD hS hA (fun _ => rfl) (by decide) (by decide) (Nat.le_of_ble_eq_true rfl) (Nat.le_of_ble_eq_true rfl) (Nat.le_of_ble_eq_true rfl) dX2_init_23 (fun q23 H hP hD hS => ?_)
  have hP : va_P G.1 vwCl [(h0, .inr (2, [.int 0, .ref q7, .ref q15, .null, .null])), (q7, .inl (G.2.2 2, 64, .inr (.inl (fun _ => 0)))), (q15, .inl (G.2.2 2, 64, .inr (.inl (fun _ => 0)))), (q23, .inl (G.2.2 1, 64, .inl (fun _ => nI 0)))] H := hP
  have hD : va_D A [(h0, .inr (2, [.int 0, .ref q7, .ref q15, .null, .null])), (q7, .inl (G.2.2 2, 64, .inr (.inl (fun _ => 0)))), (q15, .inl (G.2.2 2, 64, .inr (.inl (fun _ => 0)))), (q23, .inl (G.2.2 1, 64, .inl (fun _ => nI 0)))] := hD
  refine W.widen (k := 3) (n := 192) (Nat.le_of_ble_eq_true rfl) (Nat.le_of_ble_eq_true rfl) ?_
  refine va_putF (D := G.1) (ci := 2) (v := .ref q23) (ty := .array .int) (C := RX2) (T := TX2) (N := 5) hx hb hts (fun w h => List.mem_cons_of_mem _ (uw2 w h)) tyX2 tyX2_ok nmX2 hown hK.1.1 hP hD hS 0 rfl rfl 3 (by decide) (hw fl2_18) (fun _ h9 => h9) rfl hin rfl (by decide +kernel) rfl rfl (Nat.le_of_ble_eq_true rfl) dX2_init_25 (fun H locs hP hD hS => ?_)
  have hP : va_P G.1 vwCl [(h0, .inr (2, [.int 0, .ref q7, .ref q15, .ref q23, .null])), (q7, .inl (G.2.2 2, 64, .inr (.inl (fun _ => 0)))), (q15, .inl (G.2.2 2, 64, .inr (.inl (fun _ => 0)))), (q23, .inl (G.2.2 1, 64, .inl (fun _ => nI 0)))] H := hP
  have hD : va_D A [(h0, .inr (2, [.int 0, .ref q7, .ref q15, .ref q23, .null])), (q7, .inl (G.2.2 2, 64, .inr (.inl (fun _ => 0)))), (q15, .inl (G.2.2 2, 64, .inr (.inl (fun _ => 0)))), (q23, .inl (G.2.2 1, 64, .inl (fun _ => nI 0)))] := hD
  refine lv_aload_n hx hb dX2_init_28 rfl (lv_at hl 0 rfl) ?_
  refine lv_bipush (v := nI 64) hx hb dX2_init_29 (by decide) ?_
  refine wx_newa (atype := .long) (N' := 64) (a0 := (64, .inr (.inl (fun _ => 0)))) hx hb 2 (hw ac_long) rfl rfl (fun _ h => h) hK hP hD hS hA (fun _ => rfl) (by decide) (by decide) (Nat.le_of_ble_eq_true rfl) (Nat.le_of_ble_eq_true rfl) (Nat.le_of_ble_eq_true rfl) dX2_init_31 (fun q31 H hP hD hS => ?_)
  have hP : va_P G.1 vwCl [(h0, .inr (2, [.int 0, .ref q7, .ref q15, .ref q23, .null])), (q7, .inl (G.2.2 2, 64, .inr (.inl (fun _ => 0)))), (q15, .inl (G.2.2 2, 64, .inr (.inl (fun _ => 0)))), (q23, .inl (G.2.2 1, 64, .inl (fun _ => nI 0))), (q31, .inl (G.2.2 2, 64, .inr (.inl (fun _ => 0))))] H := hP
  have hD : va_D A [(h0, .inr (2, [.int 0, .ref q7, .ref q15, .ref q23, .null])), (q7, .inl (G.2.2 2, 64, .inr (.inl (fun _ => 0)))), (q15, .inl (G.2.2 2, 64, .inr (.inl (fun _ => 0)))), (q23, .inl (G.2.2 1, 64, .inl (fun _ => nI 0))), (q31, .inl (G.2.2 2, 64, .inr (.inl (fun _ => 0))))] := hD
  refine W.widen (k := 4) (n := 256) (Nat.le_of_ble_eq_true rfl) (Nat.le_of_ble_eq_true rfl) ?_
  refine va_putF (D := G.1) (ci := 2) (v := .ref q31) (ty := .array .long) (C := RX2) (T := TX2) (N := 5) hx hb hts (fun w h => List.mem_cons_of_mem _ (uw2 w h)) tyX2 tyX2_ok nmX2 hown hK.1.1 hP hD hS 0 rfl rfl 4 (by decide) (hw fl2_22) (fun _ h9 => h9) rfl hin rfl (by decide +kernel) rfl rfl (Nat.le_of_ble_eq_true rfl) dX2_init_33 (fun H locs hP hD hS => ?_)
  have hP : va_P G.1 vwCl [(h0, .inr (2, [.int 0, .ref q7, .ref q15, .ref q23, .ref q31])), (q7, .inl (G.2.2 2, 64, .inr (.inl (fun _ => 0)))), (q15, .inl (G.2.2 2, 64, .inr (.inl (fun _ => 0)))), (q23, .inl (G.2.2 1, 64, .inl (fun _ => nI 0))), (q31, .inl (G.2.2 2, 64, .inr (.inl (fun _ => 0))))] H := hP
  have hD : va_D A [(h0, .inr (2, [.int 0, .ref q7, .ref q15, .ref q23, .ref q31])), (q7, .inl (G.2.2 2, 64, .inr (.inl (fun _ => 0)))), (q15, .inl (G.2.2 2, 64, .inr (.inl (fun _ => 0)))), (q23, .inl (G.2.2 1, 64, .inl (fun _ => nI 0))), (q31, .inl (G.2.2 2, 64, .inr (.inl (fun _ => 0))))] := hD
  exact W.vret hx hb hr (fun t ht hW => ⟨⟨[q7, q15, q23, q31], rfl, trivial, by rw [ht]; exact hP, hD⟩, hS.F ht⟩) hS.2.2 dX2_init_36 hlocks
def wX1 (G : WG) (h0 : Nat) (u : List Nat) : va_W := [(h0, .inr (1, [.ref (u.getD 0 0), .ref (u.getD 4 0)])), (u.getD 0 0, .inr (3, [.int 0, .int 0, .int 0, .ref (u.getD 1 0), .ref (u.getD 2 0), .ref (u.getD 3 0)])), (u.getD 1 0, .inl (G.2.2 1, 64, .inl (fun _ => nI 0))), (u.getD 2 0, .inl (G.2.2 1, 64, .inl (fun _ => nI 0))), (u.getD 3 0, .inl (G.2.2 0, 64, .inl (fun _ => nI 0))), (u.getD 4 0, .inl (G.2.2 0, 10, .inl (fun _ => nI 0)))]
def bX1 : va_E := .inr (1, [.null, .null])
set_option maxHeartbeats 4000000 in
set_option maxRecDepth 100000 in
theorem c_X1 (l : Launch) (G : WG) (h0 sz : Nat) : Met l yX1_init (wsM kX1_init) ({ frames := 2, cells := 5, slots := 208, locals := 32 }) (va_Pc [.ref h0] (fun U => U.heap.size = sz ∧ va_P G.1 vwCl [(h0, bX1)] U.heap ∧ kW G U ∧ va_D (fun _ => True) [(h0, bX1)])) (va_Qv (fun _ : List Nat => True) (fun u t => va_P G.1 vwCl (wX1 G h0 u) t.heap ∧ va_D (va_A [(h0, bX1)] sz) (wX1 G h0 u)) (va_A [(h0, bX1)] sz)) 5 208 (va_A [(h0, bX1)] sz) := by
  refine Met.ofW (cc := cX1_init) (maxL := 1) (ret := none) (by decide) rfl ?_
  intro p e s m args below meth c s₁ B hml hv
  obtain ⟨rfl, hsz, hP, hK, hD0⟩ := hv
  have hx := B.exec
  have hb := B.bytes
  have hr := B.returns
  have hts := atoms_spec (ws := wsM kX1_init) B.pre
  have hw : ∀ {w : Cond}, w ∈ wT → w.before _ s = true := fun h => hts _ (List.mem_cons_of_mem _ h)
  have hown : s.vm.findClass RX1 = some m.cls := findClass_of_methodNamed B.named
  have hlocks := B.notSynchronized
  have hin : meth.name = "<init>" := (name_of_methodNamed B.named B.method).1
  subst hsz
  have hD := hD0.self (sz := s.heap.size)
  generalize hAe : va_A [(h0, bX1)] s.heap.size = A at hD ⊢
  have hA : ∀ q : Nat, s.heap.size ≤ q → A q := fun q h => by rw [← hAe]; exact Or.inr h
  have hS : va_S A s.heap s.heap [] := va_S.rf
  have hP : va_P G.1 vwCl [(h0, .inr (1, [.null, .null]))] s.heap := hP
  have hD : va_D A [(h0, .inr (1, [.null, .null]))] := hD
  have hl := lv_entry ([.ref h0]) (n := 1) (Nat.le_of_ble_eq_true rfl)
  rw [lg_entry_eq]
  generalize (lg_sl ([.ref h0]) ++ List.replicate (1 - (lg_sl ([.ref h0])).length) Slot.unset).toArray = ls at hl ⊢
  have hl : lv_has ls 1 [(0, .ref h0)] := hl
  refine lv_aload_n hx hb dX1_init_0 rfl (lv_at hl 0 rfl) ?_
  refine W.objInit hx hb hown (hw mo1) (hw moI) (hw moC) rfl (by rw [hml]; exact hl.1) rfl dX1_init_1 (Nat.le_of_ble_eq_true rfl) (Nat.le_of_ble_eq_true rfl) ?_
  refine W.eq (g2 := F0 m 4 ls []) rfl ?_
  refine lv_aload_n hx hb dX1_init_4 rfl (lv_at hl 0 rfl) ?_
  refine va_new (ci := 3) (fs := [.int 0, .int 0, .int 0, .null, .null, .null]) (C := RX3) (T := TX3) (N := 6) hx hb hts (fun w h => List.mem_cons_of_mem _ (uw3 w h)) tyX3 tyX3_ok hown (hw clX1_7) (hw iaX3) (hw in3) hK.1.1 hP hD hS hA rfl (fun j hj => by rcases (show j = 0 ∨ j = 1 ∨ j = 2 ∨ j = 3 ∨ j = 4 ∨ j = 5 by omega) with rfl | rfl | rfl | rfl | rfl | rfl <;> rfl) (Nat.le_of_ble_eq_true rfl) (Nat.le_of_ble_eq_true rfl) dX1_init_5 (fun q5 H hP hD hS => ?_)
  have hP : va_P G.1 vwCl ([(h0, .inr (1, [.null, .null]))] ++ [(q5, .inr (3, [.int 0, .int 0, .int 0, .null, .null, .null]))]) H := hP
  have hD : va_D A ([(h0, .inr (1, [.null, .null]))] ++ [(q5, .inr (3, [.int 0, .int 0, .int 0, .null, .null, .null]))]) := hD
  refine W.widen (k := 1) (n := 6) (Nat.le_of_ble_eq_true rfl) (Nat.le_of_ble_eq_true rfl) ?_
  refine lv_dup hx hb dX1_init_8 rfl ?_
  have hPc := wx_P hP
  have hDc := wx_D hD
  have hFc := wx_F hD hS hA
  refine va_callv (va_runIN (As := []) (rest := [.ref q5, .ref h0]) (host := RX5) ⟨hx, hb, hml, hown, hts⟩ (c_X3 l G q5 H.size) ⟨va_cnB 0 hts (wsM_good (k := kX1_init) (k' := kX3_init) co3) rfl rfl rfl hK.nX1_9 (hw in3) ⟨by decide, by decide, by decide +kernel⟩ ⟨Nat.le_of_ble_eq_true rfl, Nat.le_of_ble_eq_true rfl⟩, rfl, hw im3⟩ ⟨kx_blind, fun U hU hW => ⟨rfl, by rw [hU], by rw [hU]; exact hPc, hK.warm hW, hDc⟩⟩ rfl rfl hl.1 rfl (lv_room (Nat.le_of_ble_eq_true rfl)) dX1_init_9 ⟨Nat.le_of_ble_eq_true rfl, Nat.le_of_ble_eq_true rfl⟩) hS (fun q _ h => hFc q h) hFc (fun v t H1 locs ht hvm hw0 hB hz1 hk1 hS => ?_)
  obtain ⟨hP1, hD1⟩ := hB
  rw [ht] at hP1
  obtain ⟨hP, hD⟩ := wx_join hP hD hk1 hFc hP1 hD1
  generalize H1 = H at hP hS ⊢
  have hP : va_P G.1 vwCl [(h0, .inr (1, [.null, .null])), (q5, .inr (3, [.int 0, .int 0, .int 0, .ref (v.getD 0 0), .ref (v.getD 1 0), .ref (v.getD 2 0)])), ((v.getD 0 0), .inl (G.2.2 1, 64, .inl (fun _ => nI 0))), ((v.getD 1 0), .inl (G.2.2 1, 64, .inl (fun _ => nI 0))), ((v.getD 2 0), .inl (G.2.2 0, 64, .inl (fun _ => nI 0)))] H := hP
  have hD : va_D A [(h0, .inr (1, [.null, .null])), (q5, .inr (3, [.int 0, .int 0, .int 0, .ref (v.getD 0 0), .ref (v.getD 1 0), .ref (v.getD 2 0)])), ((v.getD 0 0), .inl (G.2.2 1, 64, .inl (fun _ => nI 0))), ((v.getD 1 0), .inl (G.2.2 1, 64, .inl (fun _ => nI 0))), ((v.getD 2 0), .inl (G.2.2 0, 64, .inl (fun _ => nI 0)))] := hD
  refine W.widen (k := 4) (n := 198) (Nat.le_of_ble_eq_true rfl) (Nat.le_of_ble_eq_true rfl) ?_
  refine va_putF (D := G.1) (ci := 1) (v := .ref q5) (ty := .object "WaveBuoys$Sheet") (C := RX1) (T := TX1) (N := 2) hx hb hts (fun w h => List.mem_cons_of_mem _ (uw1 w h)) tyX1 tyX1_ok nmX1 hown hK.1.1 hP hD hS 0 rfl rfl 0 (by decide) (hw fl1_10) (fun _ h9 => h9) rfl hin rfl (by decide +kernel) rfl rfl (Nat.le_of_ble_eq_true rfl) dX1_init_12 (fun H locs hP hD hS => ?_)
  have hP : va_P G.1 vwCl [(h0, .inr (1, [.ref q5, .null])), (q5, .inr (3, [.int 0, .int 0, .int 0, .ref (v.getD 0 0), .ref (v.getD 1 0), .ref (v.getD 2 0)])), ((v.getD 0 0), .inl (G.2.2 1, 64, .inl (fun _ => nI 0))), ((v.getD 1 0), .inl (G.2.2 1, 64, .inl (fun _ => nI 0))), ((v.getD 2 0), .inl (G.2.2 0, 64, .inl (fun _ => nI 0)))] H := hP
  have hD : va_D A [(h0, .inr (1, [.ref q5, .null])), (q5, .inr (3, [.int 0, .int 0, .int 0, .ref (v.getD 0 0), .ref (v.getD 1 0), .ref (v.getD 2 0)])), ((v.getD 0 0), .inl (G.2.2 1, 64, .inl (fun _ => nI 0))), ((v.getD 1 0), .inl (G.2.2 1, 64, .inl (fun _ => nI 0))), ((v.getD 2 0), .inl (G.2.2 0, 64, .inl (fun _ => nI 0)))] := hD
  refine lv_aload_n hx hb dX1_init_15 rfl (lv_at hl 0 rfl) ?_
  refine lv_bipush (v := nI 10) hx hb dX1_init_16 (by decide) ?_
  refine wx_newa (atype := .boolean) (N' := 10) (a0 := (10, .inl (fun _ => nI 0))) hx hb 0 (hw ac_boolean) rfl rfl (fun _ h => h) hK hP hD hS hA (fun _ => rfl) (by decide) (by decide) (Nat.le_of_ble_eq_true rfl) (Nat.le_of_ble_eq_true rfl) (Nat.le_of_ble_eq_true rfl) dX1_init_18 (fun q18 H hP hD hS => ?_)
  have hP : va_P G.1 vwCl [(h0, .inr (1, [.ref q5, .null])), (q5, .inr (3, [.int 0, .int 0, .int 0, .ref (v.getD 0 0), .ref (v.getD 1 0), .ref (v.getD 2 0)])), ((v.getD 0 0), .inl (G.2.2 1, 64, .inl (fun _ => nI 0))), ((v.getD 1 0), .inl (G.2.2 1, 64, .inl (fun _ => nI 0))), ((v.getD 2 0), .inl (G.2.2 0, 64, .inl (fun _ => nI 0))), (q18, .inl (G.2.2 0, 10, .inl (fun _ => nI 0)))] H := hP
  have hD : va_D A [(h0, .inr (1, [.ref q5, .null])), (q5, .inr (3, [.int 0, .int 0, .int 0, .ref (v.getD 0 0), .ref (v.getD 1 0), .ref (v.getD 2 0)])), ((v.getD 0 0), .inl (G.2.2 1, 64, .inl (fun _ => nI 0))), ((v.getD 1 0), .inl (G.2.2 1, 64, .inl (fun _ => nI 0))), ((v.getD 2 0), .inl (G.2.2 0, 64, .inl (fun _ => nI 0))), (q18, .inl (G.2.2 0, 10, .inl (fun _ => nI 0)))] := hD
  refine W.widen (k := 5) (n := 208) (Nat.le_of_ble_eq_true rfl) (Nat.le_of_ble_eq_true rfl) ?_
  refine va_putF (D := G.1) (ci := 1) (v := .ref q18) (ty := .array .boolean) (C := RX1) (T := TX1) (N := 2) hx hb hts (fun w h => List.mem_cons_of_mem _ (uw1 w h)) tyX1 tyX1_ok nmX1 hown hK.1.1 hP hD hS 0 rfl rfl 1 (by decide) (hw fl1_16) (fun _ h9 => h9) rfl hin rfl (by decide +kernel) rfl rfl (Nat.le_of_ble_eq_true rfl) dX1_init_20 (fun H locs hP hD hS => ?_)
  have hP : va_P G.1 vwCl [(h0, .inr (1, [.ref q5, .ref q18])), (q5, .inr (3, [.int 0, .int 0, .int 0, .ref (v.getD 0 0), .ref (v.getD 1 0), .ref (v.getD 2 0)])), ((v.getD 0 0), .inl (G.2.2 1, 64, .inl (fun _ => nI 0))), ((v.getD 1 0), .inl (G.2.2 1, 64, .inl (fun _ => nI 0))), ((v.getD 2 0), .inl (G.2.2 0, 64, .inl (fun _ => nI 0))), (q18, .inl (G.2.2 0, 10, .inl (fun _ => nI 0)))] H := hP
  have hD : va_D A [(h0, .inr (1, [.ref q5, .ref q18])), (q5, .inr (3, [.int 0, .int 0, .int 0, .ref (v.getD 0 0), .ref (v.getD 1 0), .ref (v.getD 2 0)])), ((v.getD 0 0), .inl (G.2.2 1, 64, .inl (fun _ => nI 0))), ((v.getD 1 0), .inl (G.2.2 1, 64, .inl (fun _ => nI 0))), ((v.getD 2 0), .inl (G.2.2 0, 64, .inl (fun _ => nI 0))), (q18, .inl (G.2.2 0, 10, .inl (fun _ => nI 0)))] := hD
  exact W.vret hx hb hr (fun t ht hW => ⟨⟨[q5, (v.getD 0 0), (v.getD 1 0), (v.getD 2 0), q18], rfl, trivial, by rw [ht]; exact hP, hD⟩, hS.F ht⟩) hS.2.2 dX1_init_23 hlocks
