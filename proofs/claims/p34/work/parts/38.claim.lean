/-! THE CLAIM: the law from its entry -/
theorem ntX5_15 : Cond.methodLinkNest RX5 15 yX3_init RX5 ∈ lw_tbl := List.mem_of_getElem? (i := 32) (by decide +kernel)
theorem ntX5_22 : Cond.methodLinkNest RX5 22 yX2_init RX5 ∈ lw_tbl := List.mem_of_getElem? (i := 60) (by decide +kernel)
theorem ntX5_25 : Cond.methodLinkNest RX5 25 yX1_init RX5 ∈ lw_tbl := List.mem_of_getElem? (i := 83) (by decide +kernel)
theorem ntX1_9 : Cond.methodLinkNest RX1 9 yX3_init RX5 ∈ lw_tbl := List.mem_of_getElem? (i := 88) (by decide +kernel)
theorem ntX5_32 : Cond.methodLinkNest RX5 32 yX4_init RX5 ∈ lw_tbl := List.mem_of_getElem? (i := 98) (by decide +kernel)
theorem ntX5_39 : Cond.methodLinkNest RX5 39 yX0_init RX5 ∈ lw_tbl := List.mem_of_getElem? (i := 121) (by decide +kernel)
theorem aoX3 : Cond.arrayOver (.object RX3) ∈ lw_tbl := List.mem_of_getElem? (i := 30) (by decide +kernel)
theorem aoX2 : Cond.arrayOver (.object RX2) ∈ lw_tbl := List.mem_of_getElem? (i := 58) (by decide +kernel)
theorem lmL_22i : Cond.methodLink RL 22 yX5_init ∈ wT := tm 23 (by decide +kernel) (by decide +kernel)
theorem good_tbl {k : MK} (h : Cond.code k.1 k.2.1 k.2.2.1 k.2.2.2 ∈ wT) : GoodIn lw_tbl (wsM k) := by
  intro w hw
  rcases List.mem_cons.mp hw with rfl | hw
  · exact ⟨wT_tbl h, wT_good h⟩
  · exact ⟨wT_tbl hw, wT_good hw⟩
theorem good5 : GoodIn lw_tbl (wsM kX5_init) := good_tbl co5
theorem shlI : ∀ r, r < 7 → nI 1 <<< (nI r &&& 31) = nI (2 ^ r) := by decide
theorem of_ac {args : Array Value} {s : State} {ty : FieldType} (h : (Cond.arrayClass ty).before args s = true) : ∃ cA, ArrOfT s cA ty ∧ s.vm.findClass ("[" ++ ty.toString) = some cA := by
  obtain ⟨cA, kA, comp, h1, h2, h3⟩ := Cond.arrayClass_spec h
  exact ⟨cA, fun n z => ⟨fun k h => (by cases h), kA, h2, comp, h3⟩, h1⟩
theorem of_ao {args : Array Value} {s : State} {C : String} (h : (Cond.arrayOver (.object C)).before args s = true) : ∃ cA, ArrOfT s cA (.object C) ∧ va_RA s cA (.object C) := by
  obtain ⟨comp, cA, kA, h1, h2, h3, h4, h5⟩ := Cond.arrayOver_spec h
  exact ⟨cA, fun n z => ⟨fun k h => (by cases h), kA, h3, comp, h4⟩, kA, comp, h3, h4, h1, h5⟩
set_option maxHeartbeats 4000000 in
set_option maxRecDepth 100000 in
theorem whole_start {p : Program} {e : Env} {s : State} {m : MethodId} {below : List Frame} {meth : Method} {c : Code} (l : Launch) (hflags : l.flags = flags0) {b L : Nat} {xs : Nat → Int32} (hL : L ≤ 260) (C0 : lw_At p s m meth c b L xs) : W p l e room_1 s m #[Value.ref b] below meth c s.heap [] 0 0 (lw_Z below #[Value.ref b] s) (entryFrame m ([Value.ref b] : List Value).toArray 19) := by
  obtain ⟨hx, hb, hr, hml, hown, hts, hX, hbl, hlocks, hgv⟩ := id C0
  have hw : ∀ {w : Cond}, w ∈ wT → w.before #[Value.ref b] s = true := fun h => hts _ (wT_tbl h)
  have hA : ∀ q : Nat, s.heap.size ≤ q → (fun q : Nat => s.heap.size ≤ q) q := fun _ h => h
  obtain ⟨c0, d0, k0⟩ := u_known (C := RX0) (T := TX0) (N := 10) hts (fun w h => wT_tbl (uw0 w h)) (hw iaX0)
  obtain ⟨c1, d1, k1⟩ := u_known (C := RX1) (T := TX1) (N := 2) hts (fun w h => wT_tbl (uw1 w h)) (hw iaX1)
  obtain ⟨c2, d2, k2⟩ := u_known (C := RX2) (T := TX2) (N := 5) hts (fun w h => wT_tbl (uw2 w h)) (hw iaX2)
  obtain ⟨c3, d3, k3⟩ := u_known (C := RX3) (T := TX3) (N := 6) hts (fun w h => wT_tbl (uw3 w h)) (hw iaX3)
  obtain ⟨c4, d4, k4⟩ := u_known (C := RX4) (T := TX4) (N := 7) hts (fun w h => wT_tbl (uw4 w h)) (hw iaX4)
  obtain ⟨c5, d5, k5⟩ := u_known (C := RX5) (T := TX5) (N := 5) hts (fun w h => wT_tbl (uw5 w h)) (hw iaX5)
  obtain ⟨D, hD0⟩ : ∃ D : va_G, ∀ (k : Nat) (q : vw_C), vwCl[k]? = some q → u_Kn s q.1 q.2.1 q.2.2 (D.1 k) (D.2 k) := by
    refine ⟨(fun k => match k with
      | 0 => c0
      | 1 => c1
      | 2 => c2
      | 3 => c3
      | 4 => c4
      | _ => c5, fun k => match k with
      | 0 => d0
      | 1 => d1
      | 2 => d2
      | 3 => d3
      | 4 => d4
      | _ => d5), ?_⟩
    intro k q hq
    match k, hq with
    | 0, hq => cases hq; exact k0
    | 1, hq => cases hq; exact k1
    | 2, hq => cases hq; exact k2
    | 3, hq => cases hq; exact k3
    | 4, hq => cases hq; exact k4
    | 5, hq => cases hq; exact k5
    | k + 6, hq => simp [vwCl] at hq
  obtain ⟨cZ, z1, z2⟩ := of_ac (hw ac_boolean)
  obtain ⟨cI, i1, i2⟩ := of_ac (hw ac_int)
  obtain ⟨cJ, j1, j2⟩ := of_ac (hw ac_long)
  obtain ⟨cS, s1, s2⟩ := of_ao (hts _ aoX3)
  obtain ⟨cR, r1, r2⟩ := of_ao (hts _ aoX2)
  obtain ⟨ca, hca⟩ : ∃ ca : Nat → ClassId, ca 0 = cZ ∧ ca 1 = cI ∧ ca 2 = cJ ∧ ca 3 = cS ∧ ca 4 = cR := ⟨fun k => match k with
      | 0 => cZ
      | 1 => cI
      | 2 => cJ
      | 3 => cS
      | _ => cR, rfl, rfl, rfl, rfl, rfl⟩
  obtain ⟨e0, e1, e2, e3, e4⟩ := hca
  subst e0 e1 e2 e3 e4
  have hwK : ∀ g : Nat → Nat, wK (D, g, ca) s := fun g => by
    refine ⟨⟨hD0, fun k q hk => ?_⟩, va_Nw.of rfl (hts _ ntX2_79)⟩
    match k, hk with
    | 0, hk => cases hk; exact ⟨z1, z2⟩
    | 1, hk => cases hk; exact ⟨i1, i2⟩
    | 2, hk => cases hk; exact ⟨j1, j2⟩
    | 3, hk => cases hk; exact ⟨s1, s2⟩
    | 4, hk => cases hk; exact ⟨r1, r2⟩
    | k + 5, hk => simp [wTys] at hk
  obtain ⟨G, hGd⟩ : ∃ G : WG, G = (D, (fun _ => 0), ca) := ⟨_, rfl⟩
  have hG1 : G.1 = D := by rw [hGd]
  have hG2 : G.2.2 = ca := by rw [hGd]
  have hK : kW G s := by
    rw [hGd]
    exact ⟨hwK _, va_Nw.of rfl (hts _ ntX5_15), va_Nw.of rfl (hts _ ntX5_22), va_Nw.of rfl (hts _ ntX5_25), va_Nw.of rfl (hts _ ntX1_9), va_Nw.of rfl (hts _ ntX5_32), va_Nw.of rfl (hts _ ntX5_39), va_AO.of (hts _ aoX3), va_AO.of (hts _ aoX2)⟩
  have hS : va_S (fun q : Nat => s.heap.size ≤ q) s.heap s.heap [] := va_S.rf
  have hP : va_P G.1 vwCl [] s.heap := fun k q h => by simp at h
  have hD : va_D (fun q : Nat => s.heap.size ≤ q) [] := ⟨fun i j p q h => by simp at h, fun k q h => by simp at h⟩
  have hl := lv_entry ([.ref b]) (n := 19) (Nat.le_of_ble_eq_true rfl)
  rw [lg_entry_eq]
  generalize (lg_sl ([.ref b]) ++ List.replicate (19 - (lg_sl ([.ref b])).length) Slot.unset).toArray = ls at hl ⊢
  have hl : lv_has ls 19 [(0, .ref b)] := hl
  have hown : s.vm.findClass RL = some m.cls := hown
  -- new WaveBuoys()
  refine va_new (ci := 5) (fs := [.null, .null, .null, .null, .null]) (C := RX5) (T := TX5) (N := 5) hx hb hts (fun w h => wT_tbl (uw5 w h)) tyX5 tyX5_ok hown (hw clL_10) (hw iaX5) (hw in5) hK.1.1 hP hD hS hA rfl (fun j hj => by rcases (show j = 0 ∨ j = 1 ∨ j = 2 ∨ j = 3 ∨ j = 4 by omega) with rfl | rfl | rfl | rfl | rfl <;> rfl) (Nat.le_of_ble_eq_true rfl) (Nat.le_of_ble_eq_true rfl) dL_law_0 (fun qx H hP hD hS => ?_)
  refine W.widen (k := 1) (n := 5) (Nat.le_of_ble_eq_true rfl) (Nat.le_of_ble_eq_true rfl) ?_
  refine lv_dup hx hb dL_law_3 rfl ?_
  have hPc := wx_P hP
  have hDc := wx_D hD
  have hFc := wx_F hD hS hA
  refine va_callv (va_runI (As := []) (rest := [.ref qx]) ⟨hx, hb, hml, hown, hts⟩ (c_X5 l G qx H.size) (cwI 0 hts (good5) rfl rfl rfl (hw in5) (hw lmL_22i) (hw im5) rfl ⟨by decide, by decide, by decide +kernel⟩ ⟨Nat.le_of_ble_eq_true rfl, Nat.le_of_ble_eq_true rfl⟩) ⟨kx_blind, fun U hU hW => ⟨rfl, by rw [hU], by rw [hU]; exact hPc, hK.warm hW, hDc⟩⟩ rfl rfl hl.1 rfl (lv_room (Nat.le_of_ble_eq_true rfl)) dL_law_4 ⟨Nat.le_of_ble_eq_true rfl, Nat.le_of_ble_eq_true rfl⟩) hS (fun q _ h => hFc q h) hFc (fun L5 t H1 locs ht hvm hraw hB hz1 hk1 hS => ?_)
  obtain ⟨hP1, hD1⟩ := hB
  rw [ht] at hP1
  obtain ⟨hP, hD⟩ := wx_join hP hD hk1 hFc hP1 hD1
  generalize H1 = H at hP hS ⊢
  have hP : va_P G.1 vwCl L5 H := hP
  have hD : va_D (fun q : Nat => s.heap.size ≤ q) L5 := hD
  refine W.widen (k := 73) (n := 3396) (Nat.le_of_ble_eq_true rfl) (Nat.le_of_ble_eq_true rfl) ?_
  refine lv_astore_n (lv' := [(1, .ref qx), (0, .ref b)]) hx hb dL_law_7 rfl hl (by decide) rfl (fun ls hl => ?_)
  -- n
  refine lv_iconst (v := nI 1) hx hb dL_law_8 (by decide) ?_
  refine lv_aload_n hx hb dL_law_9 rfl (lv_at hl 1 rfl) ?_
  refine lv_iconst (v := nI 0) hx hb dL_law_10 (by decide) ?_
  refine w_cell (Nat.le_of_ble_eq_true rfl) (Nat.le_of_ble_eq_true rfl) C0 hL hS hl.1 (by omega) (Nat.le_of_ble_eq_true rfl) dL_law_11 (fun v0 => ?_)
  refine lv_bipush (v := nI 7) hx hb dL_law_14 (by decide) ?_
  refine w_up (Nat.le_of_ble_eq_true rfl) (Nat.le_of_ble_eq_true rfl) C0 hl.1 (by omega) (by omega) (Nat.le_of_ble_eq_true rfl) dL_law_16 (fun r hr7 => ?_)
  refine lv_ishl hx hb dL_law_19 ?_
  rw [shlI r hr7]
  refine lv_istore_n (lv' := [(2, .int (nI (2 ^ r))), (1, .ref qx), (0, .ref b)]) hx hb dL_law_20 rfl hl (by decide) rfl (fun ls hl => ?_)
  -- the two arrays
  refine lv_bipush (v := nI 64) hx hb dL_law_21 (by decide) ?_
  refine wx_newa (atype := .long) (N' := 64) (a0 := (64, .inr (.inl (fun _ => 0)))) hx hb 2 (hw ac_long) rfl rfl (fun _ h => h) hK hP hD hS hA (fun _ => rfl) (by decide) (by decide) (Nat.le_of_ble_eq_true rfl) (Nat.le_of_ble_eq_true rfl) (Nat.le_of_ble_eq_true rfl) dL_law_23 (fun q3 H hP hD hS => ?_)
  refine W.widen (k := 74) (n := 3460) (Nat.le_of_ble_eq_true rfl) (Nat.le_of_ble_eq_true rfl) ?_
  refine lv_astore_n (lv' := [(3, .ref q3), (2, .int (nI (2 ^ r))), (1, .ref qx), (0, .ref b)]) hx hb dL_law_25 rfl hl (by decide) rfl (fun ls hl => ?_)
  refine lv_bipush (v := nI 64) hx hb dL_law_26 (by decide) ?_
  refine wx_newa (atype := .long) (N' := 64) (a0 := (64, .inr (.inl (fun _ => 0)))) hx hb 2 (hw ac_long) rfl rfl (fun _ h => h) hK hP hD hS hA (fun _ => rfl) (by decide) (by decide) (Nat.le_of_ble_eq_true rfl) (Nat.le_of_ble_eq_true rfl) (Nat.le_of_ble_eq_true rfl) dL_law_28 (fun q4 H hP hD hS => ?_)
  refine W.widen (k := 75) (n := 3524) (Nat.le_of_ble_eq_true rfl) (Nat.le_of_ble_eq_true rfl) ?_
  refine lv_astore (lv' := [(4, .ref q4), (3, .ref q3), (2, .int (nI (2 ^ r))), (1, .ref qx), (0, .ref b)]) hx hb dL_law_30 hl (by decide) rfl (fun ls hl => ?_)
  refine lv_lconst (v := 0) hx hb dL_law_32 (by decide) ?_
  refine lv_lstore (lv' := [(5, .long 0), (4, .ref q4), (3, .ref q3), (2, .int (nI (2 ^ r))), (1, .ref qx), (0, .ref b)]) hx hb dL_law_33 hl (by decide) rfl (fun ls hl => ?_)
  refine lv_iconst (v := nI 0) hx hb dL_law_35 (by decide) ?_
  refine lv_istore (lv' := [(7, .int (nI 0)), (5, .long 0), (4, .ref q4), (3, .ref q3), (2, .int (nI (2 ^ r))), (1, .ref qx), (0, .ref b)]) hx hb dL_law_36 hl (by decide) rfl (fun ls hl => ?_)
  refine W.widen (k := 100) (n := 8000) (Nat.le_of_ble_eq_true rfl) (Nat.le_of_ble_eq_true rfl) ?_
  have eL : (L5 ++ [(q3, (Sum.inl (G.2.2 2, 64, .inr (.inl (fun _ => 0))) : va_E))]) ++ [(q4, .inl (G.2.2 2, 64, .inr (.inl (fun _ => 0))))] = L5 ++ wXY G q3 [q4, b] := by
    rw [List.append_assoc]
    rfl
  rw [eL] at hP hD
  obtain ⟨g, g0, g73, g74, g75, hwD, hwP, hwA⟩ := made hraw hP hD
  have g74 : g 74 = q4 := g74
  have g75 : g 75 = b := g75
  subst g0
  subst g73
  subst g74
  rw [hG1, hG2] at hwD hwP
  have h64 : ∀ q, q < 7 → 2 ^ q ≤ 64 := by decide
  refine wl_38 (L := L) (xs := xs) (G := (D, g, ca)) ⟨C0, hL, hwD, hwK g, hwA, g75⟩ (n := 2 ^ r) (q := r) (h64 r hr7) hr7 rfl (2 ^ r) 0 (by omega) (fun _ => 0) (fun _ => 0) muZ (fun i hi => absurd hi (by omega)) (fun i hi => absurd hi (by omega)) (fun i hi => absurd hi (by omega)) (fun i hi => absurd hi (by omega)) H _ ls hwP hS ⟨hl.1, hl.2.1, fun i v hi => ?_⟩
  match i, hi with
  | 0, hi =>
    cases hi
    show ls[0]? = some (.val (.ref (g 75)))
    rw [g75]
    exact lv_at hl 6 rfl
  | 1, hi => cases hi; exact lv_at hl 5 rfl
  | 2, hi => cases hi; exact lv_at hl 4 rfl
  | 3, hi => cases hi; exact lv_at hl 3 rfl
  | 4, hi => cases hi; exact lv_at hl 2 rfl
  | 5, hi => cases hi; exact lv_at hl 1 rfl
  | 6, hi => cases hi
  | 7, hi => cases hi; exact lv_at hl 0 rfl
  | 8, hi => cases hi
  | 9, hi => cases hi
  | 10, hi => cases hi
  | 11, hi => cases hi
  | 12, hi => cases hi
  | 13, hi => cases hi
  | 14, hi => cases hi
  | 15, hi => cases hi
  | 16, hi => cases hi
  | 17, hi => cases hi
  | 18, hi => cases hi
  | i + 19, hi => cases hi
set_option maxHeartbeats 4000000 in
theorem lw_walk (l : Launch) (hflags : l.flags = flags0) (b : Addr) (xs : List Int32) : MetFree l x (headSpec (Jvm.Cond.code x code maxLocals ret :: tables_1) room_1) (lw_P b xs) (fun _ _ _ _ _ => True) lw_Q := by
  refine MetFree.of_bodyS (code := code) (maxLocals := maxLocals) (ret := ret) (by decide) ?_ ?_
  · intro args s m h hn
    obtain ⟨meth, c, h1, h2, h3, h4, h5, h6, -, -⟩ := Cond.code_spec hn (atoms_spec (ws := Jvm.Cond.code x code maxLocals ret :: tables_1) h _ List.mem_cons_self)
    exact ⟨meth, c, h1, h2, h3, h4, h5, h6⟩
  · intro p e s m args below meth c s₁ B hml0 hP _
    obtain ⟨rfl, hx, hbd, hgv⟩ := hP
    obtain ⟨scr, harrAt, hlist, hof, hsmall⟩ := hx
    obtain ⟨hcb, hkn, -, -⟩ := State.arrayAt?_spec harrAt
    have hown : s.vm.findClass R_law = some m.cls := findClass_of_methodNamed B.named
    have hts0 : ∀ c ∈ (Jvm.Cond.code x code maxLocals ret :: tables_1), c.before #[Value.ref b] s = true := atoms_spec (ws := Jvm.Cond.code x code maxLocals ret :: tables_1) B.pre
    have hts : ∀ w ∈ lw_tbl, w.before #[Value.ref b] s = true := k2_hts_sels lw_privs (fun w hw => hts0 w (List.mem_cons_of_mem _ hw)) lw_privs_ok
    have hml : c.maxLocals = 19 := B.maxLocals_eq (hts0 _ List.mem_cons_self)
    have X₀ : Stand p l e room_1 s m #[Value.ref b] below meth c s₁ [] 0 0 := Stand.of_body B
    have hh0 : s₁.heap = s.heap := by rw [B.state]; rfl
    have hsz : scr.slots.size = xs.length := by rw [← Array.length_toList, hlist, List.length_map]
    have hval : ∀ j : Nat, j < xs.length → scr.slots[j]? = some (.int (xs.getD j 0)) := fun j hj => by
      rw [← Array.getElem?_toList, hlist]
      simp [hj]
    have hbl : b < s.heap.size := (Array.getElem?_eq_some_iff.mp hcb).1
    have hX : va_X b xs.length (fun j => xs.getD j 0) s s.heap := ⟨scr, hcb, hof, hkn, hsz, hval⟩
    have K : W p l e room_1 s m #[Value.ref b] below meth c s₁.heap [] 0 0 (lw_Z below #[Value.ref b] s) (entryFrame m ([Value.ref b] : List Value).toArray 19) := by
      rw [hh0]
      exact whole_start l hflags hbd ⟨B.exec, B.bytes, B.returns, hml, hown, hts, hX, hbl, B.notSynchronized, hgv⟩
    obtain ⟨t, a1, o, b1, b2, b3⟩ := K s₁ rfl X₀
    exact ⟨t, o, a1, b1, b2, b3⟩
theorem lw_pre_spec {args : Array Value} {s : State} (h : (Jvm.Cond.and given_1 narrow_1).before args s = true) (hr : rest_1_c.before args s = true) : ∃ (b : Addr) (xs : List Int32), lw_P b xs args s := by
  have hs := flat_of_before _ h
  have hq := flat_of_before _ hr
  have hc : (Cond.count 1).before args s = true := hs _ (by decide +kernel)
  have harr : (Cond.arrayOf (.arg 0) .int).before args s = true := hs _ (by decide +kernel)
  have hle : (Cond.le (.length (.arg 0)) (.int 260)).before args s = true := hs _ (by decide +kernel)
  have hlen : (Cond.isInt (.length (.arg 0))).before args s = true := hq _ (by decide +kernel)
  have hall : (Cond.all (.arg 0) (.isInt (.elem (.arg 0) (.index 0)))).before args s = true := hq _ (by decide +kernel)
  obtain ⟨b, xs, hb, hx⟩ := State.ints_of_pre rfl harr hlen hall
  have hsm : xs.length < 2 ^ 31 := hx.choose_spec.2.2.2
  have hev : (Term.length (.arg 0)).eval args s none [] s = some (.int xs.length.toInt32) := hx.length_eval hb
  have hv := Cond.le_ints hev (show (Term.int 260).eval args s none [] s = some (.int 260) from rfl)
  have hd : xs.length.toInt32 ≤ 260 := by
    simpa [Cond.before, Cond.holds, hv] using hle
  have hN : xs.length ≤ 260 := (Int32.ofNat_le_ofNat hsm (by decide)).mp (show Int32.ofNat xs.length ≤ Int32.ofNat 260 from hd)
  exact ⟨b, xs, Cond.one_arg hc (show args[0]? = some (.ref b) from hb), hx, hN, h⟩
theorem lw_comes (l : Launch) (hflags : l.flags = flags0) : Comes l x (Jvm.Cond.code x code maxLocals ret :: tables_1) room_1 (fun tb e args s => Calls_1 tb e args s ∧ rest_1 tb e args s ∧ Pre_1 tb e args s)
    (fun _ _ args s o t => lw_Q args s o t) := by
  intro p e ha hc hk s m args below hf hfit hheap happ hpre
  obtain ⟨b, xs, hP⟩ := lw_pre_spec hpre.2.2 hpre.2.1
  obtain ⟨k, o, h1, h2, h3, hQ⟩ := lw_walk l hflags b xs p e ha hc hk s m args below hf ((Spec.applies_iff_loose hf).mp happ).1 hP trivial
  exact ⟨k, o, h1, h2, h3, hQ⟩
theorem lw_frame {s t : State} {o : Outcome} {args : Array Value} (h : Framed s o t [] 600000 7302250) :
    Framed s o t (fieldLocs frame_1_writes args s ++ arrayLocs frame_1_arrays args s ++ staticLocs frame_1_statics s) 600000 7302250 := h
theorem lw_limb (L : Cond) (hL : ∀ (args : Array Value) (s t : State), L.after args s (.returned (some (.int 1))) t = true) :
    ArmFor flags0 classFile x code maxLocals ret World_1 tables_1 room_1 Calls_1 rest_1 Pre_1
      (fun tb e a s o t => postC L tb e a s o t ∧ Framed s o t (fieldLocs frame_1_writes a s ++ arrayLocs frame_1_arrays a s ++ staticLocs frame_1_statics s) 600000 7302250) := by
  intro l hflags _ _ p e ha hc hk s m args below hf hfit hheap happ hpre
  obtain ⟨k, o, h1, h2, h3, rfl, hF⟩ := lw_comes l hflags p e ha hc hk s m args below hf hfit hheap happ hpre
  exact ⟨k, _, h1, h2, h3, hL args s _, lw_frame hF⟩
theorem i_vc : Claimed_1_1 ∧ Claimed_1_2 := ⟨lw_limb limb_1_1 (fun args s t => by simp [limb_1_1, Cond.after, Cond.holds, Cond.value]), lw_limb limb_1_2 (fun args s t => Cond.after_iff.mpr (by
  first | (rw [show limb_1_2 = Cond.eq .result (.int 1) from rfl, Cond.eq_ints (x := 1) (y := 1) rfl rfl]; simp; done) | (simp [limb_1_2, Cond.value, Term.eval]; done)))⟩
