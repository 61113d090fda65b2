/-! MAKING: WaveBuoys() -/
def bX5 : va_E := .inr (5, [.null, .null, .null, .null, .null])
abbrev arS (G : WG) (n : Nat) (k : Nat) (f : Nat → Option Nat) : va_E := .inl (G.2.2 k, n, .inr (.inr (.inr (.inr f))))
/-- the first i SHEETS lie in R, four cells each -/
def shOk (G : WG) (R : va_W) (f : Nat → Option Nat) (i : Nat) : Prop := ∀ j, j < i → ∃ a u, f j = some a ∧ ∀ k, k < 4 → R[4 * j + k]? = (wX3 G a u)[k]?
def rwOk (G : WG) (R : va_W) (f : Nat → Option Nat) (i : Nat) : Prop := ∀ j, j < i → ∃ a u, f j = some a ∧ ∀ k, k < 5 → R[32 + 5 * j + k]? = (wX2 G a u)[k]?
theorem shOk.app {G : WG} {R y : va_W} {f : Nat → Option Nat} {i : Nat} (h : shOk G R f i) (hl : 4 * i ≤ R.length) : shOk G (R ++ y) f i := fun j hj => by
  obtain ⟨a, u, h1, h2⟩ := h j hj
  exact ⟨a, u, h1, fun k hk => by rw [List.getElem?_append_left (by omega)]; exact h2 k hk⟩
theorem rwOk.app {G : WG} {R y : va_W} {f : Nat → Option Nat} {i : Nat} (h : rwOk G R f i) (hl : 32 + 5 * i ≤ R.length) : rwOk G (R ++ y) f i := fun j hj => by
  obtain ⟨a, u, h1, h2⟩ := h j hj
  exact ⟨a, u, h1, fun k hk => by rw [List.getElem?_append_left (by omega)]; exact h2 k hk⟩
theorem shOk.push {G : WG} {R : va_W} {f : Nat → Option Nat} {i a : Nat} {u : List Nat} (h : shOk G R f i) (hl : R.length = 4 * i) : shOk G (R ++ wX3 G a u) (va_up f i (some a)) (i + 1) := by
  intro j hj
  by_cases hji : j = i
  · subst hji
    refine ⟨a, u, by simp [va_up], fun k hk => ?_⟩
    rw [List.getElem?_append_right (by omega), hl, show 4 * j + k - 4 * j = k by omega]
  · obtain ⟨b, v, h1, h2⟩ := h j (by omega)
    refine ⟨b, v, by simp [va_up, hji, h1], fun k hk => ?_⟩
    rw [List.getElem?_append_left (by omega)]
    exact h2 k hk
theorem rwOk.push {G : WG} {R : va_W} {f : Nat → Option Nat} {i a : Nat} {u : List Nat} (h : rwOk G R f i) (hl : R.length = 32 + 5 * i) : rwOk G (R ++ wX2 G a u) (va_up f i (some a)) (i + 1) := by
  intro j hj
  by_cases hji : j = i
  · subst hji
    refine ⟨a, u, by simp [va_up], fun k hk => ?_⟩
    rw [List.getElem?_append_right (by omega), hl, show 32 + 5 * j + k - (32 + 5 * j) = k by omega]
  · obtain ⟨b, v, h1, h2⟩ := h j (by omega)
    refine ⟨b, v, by simp [va_up, hji, h1], fun k hk => ?_⟩
    rw [List.getElem?_append_left (by omega)]
    exact h2 k hk
/-- what WaveBuoys() leaves -/
def rawX5 (G : WG) (h0 : Nat) (L : va_W) : Prop := ∃ (qa qb : Nat) (f f2 : Nat → Option Nat) (R : va_W) (qp : Nat) (u : List Nat) (qw qm : Nat), R.length = 62 ∧ shOk G R f 8 ∧ rwOk G R f2 6 ∧
  L = ((([(h0, .inr (5, [.ref qa, .ref qb, .ref qp, .ref qw, .ref qm])), (qa, arS G 8 3 f), (qb, arS G 6 4 f2)] ++ R) ++ wX1 G qp u) ++ wX4 G qw []) ++ wX0 G qm []
set_option maxHeartbeats 8000000 in
set_option maxRecDepth 100000 in
theorem c_X5 (l : Launch) (G : WG) (h0 sz : Nat) : Met l yX5_init (wsM kX5_init) ({ frames := 3, cells := 72, slots := 3391, locals := 52 }) (va_Pc [.ref h0] (fun U => U.heap.size = sz ∧ va_P G.1 vwCl [(h0, bX5)] U.heap ∧ kW G U ∧ va_D (fun _ => True) [(h0, bX5)])) (va_Qv (fun L : va_W => rawX5 G h0 L) (fun L t => va_P G.1 vwCl L t.heap ∧ va_D (va_A [(h0, bX5)] sz) L) (va_A [(h0, bX5)] sz)) 72 3391 (va_A [(h0, bX5)] sz) := by
  refine Met.ofW (cc := cX5_init) (maxL := 2) (ret := none) (by decide) rfl ?_
  intro p e s m args below meth c s₁ B hml hv
  obtain ⟨rfl, hsz, hP, hK, hD0⟩ := hv
  have hx := B.exec
  have hb := B.bytes
  have hr := B.returns
  have hts := atoms_spec (ws := wsM kX5_init) B.pre
  have hw : ∀ {w : Cond}, w ∈ wT → w.before _ s = true := fun h => hts _ (List.mem_cons_of_mem _ h)
  have hown : s.vm.findClass RX5 = some m.cls := findClass_of_methodNamed B.named
  have hlocks := B.notSynchronized
  have hin : meth.name = "<init>" := (name_of_methodNamed B.named B.method).1
  subst hsz
  have hD := hD0.self (sz := s.heap.size)
  generalize hAe : va_A [(h0, bX5)] s.heap.size = A at hD ⊢
  have hA : ∀ q : Nat, s.heap.size ≤ q → A q := fun q h => by rw [← hAe]; exact Or.inr h
  have hS : va_S A s.heap s.heap [] := va_S.rf
  have hP : va_P G.1 vwCl [(h0, .inr (5, [.null, .null, .null, .null, .null]))] s.heap := hP
  have hD : va_D A [(h0, .inr (5, [.null, .null, .null, .null, .null]))] := hD
  have hl := lv_entry ([.ref h0]) (n := 2) (Nat.le_of_ble_eq_true rfl)
  rw [lg_entry_eq]
  generalize (lg_sl ([.ref h0]) ++ List.replicate (2 - (lg_sl ([.ref h0])).length) Slot.unset).toArray = ls at hl ⊢
  have hl : lv_has ls 2 [(0, .ref h0)] := hl
  -- behind both loops
  have fin : ∀ (qa qb : Nat) (f f2 : Nat → Option Nat) (R : va_W) (H : Heap) (locs : List Loc) (ls : Array Slot), R.length = 62 → shOk G R f 8 → rwOk G R f2 6 → va_P G.1 vwCl ([(h0, .inr (5, [.ref qa, .ref qb, .null, .null, .null])), (qa, arS G 8 3 f), (qb, arS G 6 4 f2)] ++ R) H → va_D A ([(h0, .inr (5, [.ref qa, .ref qb, .null, .null, .null])), (qa, arS G 8 3 f), (qb, arS G 6 4 f2)] ++ R) → va_S A s.heap H locs → lv_has ls 2 [(0, .ref h0)] → W p l e (headSpec (wsM kX5_init) { frames := 3, cells := 72, slots := 3391, locals := 52 }).room s m #[Value.ref h0] below meth c H locs 64 3164 (MQ below (va_Qv (fun L : va_W => rawX5 G h0 L) (fun L t => va_P G.1 vwCl L t.heap ∧ va_D A L) A) #[Value.ref h0] s 72 3391 A) (F0 m 76 ls []) := by
    intro qa qb f f2 R H locs ls hR hsh hrw hP hD hS hl
    refine lv_aload_n hx hb dX5_init_76 rfl (lv_at hl 0 rfl) ?_
    refine va_new (ci := 1) (fs := [.null, .null]) (C := RX1) (T := TX1) (N := 2) hx hb hts (fun w h => List.mem_cons_of_mem _ (uw1 w h)) tyX1 tyX1_ok hown (hw clX5_23) (hw iaX1) (hw in1) hK.1.1 hP hD hS hA rfl (fun j hj => by rcases (show j = 0 ∨ j = 1 by omega) with rfl | rfl <;> rfl) (Nat.le_of_ble_eq_true rfl) (Nat.le_of_ble_eq_true rfl) dX5_init_77 (fun qp H hP hD hS => ?_)
    refine W.widen (k := 65) (n := 3166) (Nat.le_of_ble_eq_true rfl) (Nat.le_of_ble_eq_true rfl) ?_
    refine lv_dup hx hb dX5_init_80 rfl ?_
    have hPc := wx_P hP
    have hDc := wx_D hD
    have hFc := wx_F hD hS hA
    refine va_callv (va_runIN (As := []) (rest := [.ref qp, .ref h0]) (host := RX5) ⟨hx, hb, hml, hown, hts⟩ (c_X1 l G qp H.size) ⟨va_cnB 0 hts (wsM_good (k := kX5_init) (k' := kX1_init) co1) rfl rfl rfl hK.nX5_25 (hw in1) ⟨by decide, by decide, by decide +kernel⟩ ⟨Nat.le_of_ble_eq_true rfl, Nat.le_of_ble_eq_true rfl⟩, rfl, hw im1⟩ ⟨kx_blind, fun U hU hW => ⟨rfl, by rw [hU], by rw [hU]; exact hPc, hK.warm hW, hDc⟩⟩ rfl rfl hl.1 rfl (lv_room (Nat.le_of_ble_eq_true rfl)) dX5_init_81 ⟨Nat.le_of_ble_eq_true rfl, Nat.le_of_ble_eq_true rfl⟩) hS (fun q _ h => hFc q h) hFc (fun u t H1 locs ht hvm hw0 hB hz1 hk1 hS => ?_)
    obtain ⟨hP1, hD1⟩ := hB
    rw [ht] at hP1
    obtain ⟨hP, hD⟩ := wx_join hP hD hk1 hFc hP1 hD1
    generalize H1 = H at hP hS ⊢
    refine W.widen (k := 70) (n := 3374) (Nat.le_of_ble_eq_true rfl) (Nat.le_of_ble_eq_true rfl) ?_
    refine va_putF (D := G.1) (ci := 5) (v := .ref qp) (ty := .object "WaveBuoys$Packs") (C := RX5) (T := TX5) (N := 5) hx hb hts (fun w h => List.mem_cons_of_mem _ (uw5 w h)) tyX5 tyX5_ok nmX5 hown hK.1.1 hP hD hS 0 rfl rfl 2 (by decide) (hw fl5_26) (fun _ h9 => h9) rfl hin rfl (by decide +kernel) rfl rfl (Nat.le_of_ble_eq_true rfl) dX5_init_84 (fun H locs hP hD hS => ?_)
    have hP : va_P G.1 vwCl (([(h0, .inr (5, [.ref qa, .ref qb, .ref qp, .null, .null])), (qa, arS G 8 3 f), (qb, arS G 6 4 f2)] ++ R) ++ wX1 G qp u) H := hP
    have hD : va_D A (([(h0, .inr (5, [.ref qa, .ref qb, .ref qp, .null, .null])), (qa, arS G 8 3 f), (qb, arS G 6 4 f2)] ++ R) ++ wX1 G qp u) := hD
    refine lv_aload_n hx hb dX5_init_87 rfl (lv_at hl 0 rfl) ?_
    refine va_new (ci := 4) (fs := [.int 0, .int 0, .int 0, .int 0, .int 0, .int 0, .int 0]) (C := RX4) (T := TX4) (N := 7) hx hb hts (fun w h => List.mem_cons_of_mem _ (uw4 w h)) tyX4 tyX4_ok hown (hw clX5_30) (hw iaX4) (hw in4) hK.1.1 hP hD hS hA rfl (fun j hj => by rcases (show j = 0 ∨ j = 1 ∨ j = 2 ∨ j = 3 ∨ j = 4 ∨ j = 5 ∨ j = 6 by omega) with rfl | rfl | rfl | rfl | rfl | rfl | rfl <;> rfl) (Nat.le_of_ble_eq_true rfl) (Nat.le_of_ble_eq_true rfl) dX5_init_88 (fun qw H hP hD hS => ?_)
    refine W.widen (k := 71) (n := 3381) (Nat.le_of_ble_eq_true rfl) (Nat.le_of_ble_eq_true rfl) ?_
    refine lv_dup hx hb dX5_init_91 rfl ?_
    have hPc := wx_P hP
    have hDc := wx_D hD
    have hFc := wx_F hD hS hA
    refine va_callv (va_runIN (As := []) (rest := [.ref qw, .ref h0]) (host := RX5) ⟨hx, hb, hml, hown, hts⟩ (c_X4 l G qw H.size) ⟨va_cnB 0 hts (wsM_good (k := kX5_init) (k' := kX4_init) co4) rfl rfl rfl hK.nX5_32 (hw in4) ⟨by decide, by decide, by decide +kernel⟩ ⟨Nat.le_of_ble_eq_true rfl, Nat.le_of_ble_eq_true rfl⟩, rfl, hw im4⟩ ⟨kx_blind, fun U hU hW => ⟨rfl, by rw [hU], by rw [hU]; exact hPc, hK.warm hW, hDc⟩⟩ rfl rfl hl.1 rfl (lv_room (Nat.le_of_ble_eq_true rfl)) dX5_init_92 ⟨Nat.le_of_ble_eq_true rfl, Nat.le_of_ble_eq_true rfl⟩) hS (fun q _ h => hFc q h) hFc (fun u4 t H1 locs ht hvm hw0 hB hz1 hk1 hS => ?_)
    obtain ⟨hP1, hD1⟩ := hB
    rw [ht] at hP1
    obtain ⟨hP, hD⟩ := wx_join hP hD hk1 hFc hP1 hD1
    generalize H1 = H at hP hS ⊢
    refine W.widen (k := 71) (n := 3381) (Nat.le_of_ble_eq_true rfl) (Nat.le_of_ble_eq_true rfl) ?_
    refine va_putF (D := G.1) (ci := 5) (v := .ref qw) (ty := .object "WaveBuoys$Warning") (C := RX5) (T := TX5) (N := 5) hx hb hts (fun w h => List.mem_cons_of_mem _ (uw5 w h)) tyX5 tyX5_ok nmX5 hown hK.1.1 hP hD hS 0 rfl rfl 3 (by decide) (hw fl5_33) (fun _ h9 => h9) rfl hin rfl (by decide +kernel) rfl rfl (Nat.le_of_ble_eq_true rfl) dX5_init_95 (fun H locs hP hD hS => ?_)
    have hP : va_P G.1 vwCl ((([(h0, .inr (5, [.ref qa, .ref qb, .ref qp, .ref qw, .null])), (qa, arS G 8 3 f), (qb, arS G 6 4 f2)] ++ R) ++ wX1 G qp u) ++ wX4 G qw []) H := hP
    have hD : va_D A ((([(h0, .inr (5, [.ref qa, .ref qb, .ref qp, .ref qw, .null])), (qa, arS G 8 3 f), (qb, arS G 6 4 f2)] ++ R) ++ wX1 G qp u) ++ wX4 G qw []) := hD
    refine lv_aload_n hx hb dX5_init_98 rfl (lv_at hl 0 rfl) ?_
    refine va_new (ci := 0) (fs := [.long 0, .long 0, .long 0, .int 0, .int 0, .int 0, .int 0, .int 0, .int 0, .int 0]) (C := RX0) (T := TX0) (N := 10) hx hb hts (fun w h => List.mem_cons_of_mem _ (uw0 w h)) tyX0 tyX0_ok hown (hw clX5_37) (hw iaX0) (hw in0) hK.1.1 hP hD hS hA rfl (fun j hj => by rcases (show j = 0 ∨ j = 1 ∨ j = 2 ∨ j = 3 ∨ j = 4 ∨ j = 5 ∨ j = 6 ∨ j = 7 ∨ j = 8 ∨ j = 9 by omega) with rfl | rfl | rfl | rfl | rfl | rfl | rfl | rfl | rfl | rfl <;> rfl) (Nat.le_of_ble_eq_true rfl) (Nat.le_of_ble_eq_true rfl) dX5_init_99 (fun qm H hP hD hS => ?_)
    refine W.widen (k := 72) (n := 3391) (Nat.le_of_ble_eq_true rfl) (Nat.le_of_ble_eq_true rfl) ?_
    refine lv_dup hx hb dX5_init_102 rfl ?_
    have hPc := wx_P hP
    have hDc := wx_D hD
    have hFc := wx_F hD hS hA
    refine va_callv (va_runIN (As := []) (rest := [.ref qm, .ref h0]) (host := RX5) ⟨hx, hb, hml, hown, hts⟩ (c_X0 l G qm H.size) ⟨va_cnB 0 hts (wsM_good (k := kX5_init) (k' := kX0_init) co0) rfl rfl rfl hK.nX5_39 (hw in0) ⟨by decide, by decide, by decide +kernel⟩ ⟨Nat.le_of_ble_eq_true rfl, Nat.le_of_ble_eq_true rfl⟩, rfl, hw im0⟩ ⟨kx_blind, fun U hU hW => ⟨rfl, by rw [hU], by rw [hU]; exact hPc, hK.warm hW, hDc⟩⟩ rfl rfl hl.1 rfl (lv_room (Nat.le_of_ble_eq_true rfl)) dX5_init_103 ⟨Nat.le_of_ble_eq_true rfl, Nat.le_of_ble_eq_true rfl⟩) hS (fun q _ h => hFc q h) hFc (fun u0 t H1 locs ht hvm hw0 hB hz1 hk1 hS => ?_)
    obtain ⟨hP1, hD1⟩ := hB
    rw [ht] at hP1
    obtain ⟨hP, hD⟩ := wx_join hP hD hk1 hFc hP1 hD1
    generalize H1 = H at hP hS ⊢
    refine W.widen (k := 72) (n := 3391) (Nat.le_of_ble_eq_true rfl) (Nat.le_of_ble_eq_true rfl) ?_
    refine va_putF (D := G.1) (ci := 5) (v := .ref qm) (ty := .object "WaveBuoys$Mooring") (C := RX5) (T := TX5) (N := 5) hx hb hts (fun w h => List.mem_cons_of_mem _ (uw5 w h)) tyX5 tyX5_ok nmX5 hown hK.1.1 hP hD hS 0 rfl rfl 4 (by decide) (hw fl5_40) (fun _ h9 => h9) rfl hin rfl (by decide +kernel) rfl rfl (Nat.le_of_ble_eq_true rfl) dX5_init_106 (fun H locs hP hD hS => ?_)
    have hP : va_P G.1 vwCl (((([(h0, .inr (5, [.ref qa, .ref qb, .ref qp, .ref qw, .ref qm])), (qa, arS G 8 3 f), (qb, arS G 6 4 f2)] ++ R) ++ wX1 G qp u) ++ wX4 G qw []) ++ wX0 G qm []) H := hP
    have hD : va_D A (((([(h0, .inr (5, [.ref qa, .ref qb, .ref qp, .ref qw, .ref qm])), (qa, arS G 8 3 f), (qb, arS G 6 4 f2)] ++ R) ++ wX1 G qp u) ++ wX4 G qw []) ++ wX0 G qm []) := hD
    exact W.vret hx hb hr (fun t ht hW => ⟨⟨_, rfl, ⟨qa, qb, f, f2, R, qp, u, qw, qm, hR, hsh, hrw, rfl⟩, by rw [ht]; exact hP, hD⟩, hS.F ht⟩) hS.2.2 dX5_init_109 hlocks
  -- the ROWS
  have loop2 : ∀ mm i, i + mm = 6 → ∀ (qa qb : Nat) (f f2 : Nat → Option Nat) (R : va_W) (H : Heap) (locs : List Loc) (ls : Array Slot), R.length = 32 + 5 * i → shOk G R f 8 → rwOk G R f2 i → va_P G.1 vwCl ([(h0, .inr (5, [.ref qa, .ref qb, .null, .null, .null])), (qa, arS G 8 3 f), (qb, arS G 6 4 f2)] ++ R) H → va_D A ([(h0, .inr (5, [.ref qa, .ref qb, .null, .null, .null])), (qa, arS G 8 3 f), (qb, arS G 6 4 f2)] ++ R) → va_S A s.heap H locs → lv_has ls 2 [(0, .ref h0), (1, .int (nI i))] → W p l e (headSpec (wsM kX5_init) { frames := 3, cells := 72, slots := 3391, locals := 52 }).room s m #[Value.ref h0] below meth c H locs (34 + 5 * i) (1598 + 261 * i) (MQ below (va_Qv (fun L : va_W => rawX5 G h0 L) (fun L t => va_P G.1 vwCl L t.heap ∧ va_D A L) A) #[Value.ref h0] s 72 3391 A) (F0 m 51 ls []) := by
    intro mm
    induction mm with
    | zero =>
      intro i hi qa qb f f2 R H locs ls hR hsh hrw hP hD hS hl
      obtain rfl : i = 6 := by omega
      refine lv_iload_n hx hb dX5_init_51 rfl (lv_at hl 1 rfl) ?_
      refine lv_bipush (v := nI 6) hx hb dX5_init_52 (by decide) ?_
      refine lv_icmp_ge (tgt := 76) hx hb dX5_init_54 (by decide) (fun _ => ?_) (fun q => absurd (by decide) q)
      exact fin qa qb f f2 R H locs ls hR hsh hrw hP hD hS (lv_sub hl [0] rfl)
    | succ mm ih =>
      intro i hi qa qb f f2 R H locs ls hR hsh hrw hP hD hS hl
      refine lv_iload_n hx hb dX5_init_51 rfl (lv_at hl 1 rfl) ?_
      refine lv_bipush (v := nI 6) hx hb dX5_init_52 (by decide) ?_
      refine lv_icmp_ge (tgt := 76) hx hb dX5_init_54 (by decide) (fun q => absurd q (by
        rw [Int32.le_iff_toInt_le, nI_toInt (by omega), nI_toInt (by omega)]
        omega)) (fun _ => ?_)
      refine lv_aload_n hx hb dX5_init_57 rfl (lv_at hl 0 rfl) ?_
      refine va_get (D := G.1) (ci := 5) (v := .ref qb) (C := RX5) (T := TX5) (N := 5) hx hb hts (fun w h => List.mem_cons_of_mem _ (uw5 w h)) hown hK.1.1 hP 0 rfl rfl 1 (by decide) (hw fl5_18) (fun _ h9 => h9) rfl dX5_init_58 ?_
      refine lv_iload_n hx hb dX5_init_61 rfl (lv_at hl 1 rfl) ?_
      refine va_new (ci := 2) (fs := [.int 0, .null, .null, .null, .null]) (C := RX2) (T := TX2) (N := 5) hx hb hts (fun w h => List.mem_cons_of_mem _ (uw2 w h)) tyX2 tyX2_ok hown (hw clX5_16) (hw iaX2) (hw in2) hK.1.1 hP hD hS hA rfl (fun j hj => by rcases (show j = 0 ∨ j = 1 ∨ j = 2 ∨ j = 3 ∨ j = 4 by omega) with rfl | rfl | rfl | rfl | rfl <;> rfl) (by show 34 + 5 * i + 1 ≤ 72; omega) (by show 1598 + 261 * i + 5 ≤ 3391; omega) dX5_init_62 (fun qs H hP hD hS => ?_)
      refine lv_dup hx hb dX5_init_65 rfl ?_
      have hPc := wx_P hP
      have hDc := wx_D hD
      have hFc := wx_F hD hS hA
      refine va_callv (va_runIN (As := []) (rest := [.ref qs, .int (nI i), .ref qb]) (host := RX5) ⟨hx, hb, hml, hown, hts⟩ (c_X2 l G qs H.size) ⟨va_cnB 0 hts (wsM_good (k := kX5_init) (k' := kX2_init) co2) rfl rfl rfl hK.nX5_22 (hw in2) ⟨by decide, by decide, by decide +kernel⟩ ⟨Nat.le_of_ble_eq_true rfl, Nat.le_of_ble_eq_true rfl⟩, rfl, hw im2⟩ ⟨kx_blind, fun U hU hW => ⟨rfl, by rw [hU], by rw [hU]; exact hPc, hK.warm hW, hDc⟩⟩ rfl rfl hl.1 rfl (lv_room (Nat.le_of_ble_eq_true rfl)) dX5_init_66 ⟨by show 34 + 5 * i + 1 + 4 ≤ 72; omega, by show 1598 + 261 * i + 5 + 256 ≤ 3391; omega⟩) hS (fun q _ h => hFc q h) hFc (fun u t H1 locs ht hvm hw0 hB hz1 hk1 hS => ?_)
      obtain ⟨hP1, hD1⟩ := hB
      rw [ht] at hP1
      obtain ⟨hP, hD⟩ := wx_join hP hD hk1 hFc hP1 hD1
      generalize H1 = H at hP hS ⊢
      refine W.widen (k := 34 + 5 * (i + 1)) (n := 1598 + 261 * (i + 1)) (by omega) (by omega) ?_
      refine va_astq (ci := 2) (r := (RX2, TX2, 5)) (n := 6) (vs := [.int 0, .ref (u.getD 0 0), .ref (u.getD 1 0), .ref (u.getD 2 0), .ref (u.getD 3 0)]) (f := f2) hx hb hK.1.1 hP hD hS 2 4 ([(h0, .inr (5, [.ref qa, .ref qb, .null, .null, .null])), (qa, arS G 8 3 f), (qb, arS G 6 4 f2)] ++ R).length rfl rfl (by rw [List.getElem?_append_right (Nat.le_refl _), Nat.sub_self]; rfl) rfl (vp_in_nI (show i < 6 by omega) (by omega)) dX5_init_69 (fun H locs hP hD hS => ?_)
      rw [nI_clamp (by omega)] at hP hD
      have hP : va_P G.1 vwCl ([(h0, .inr (5, [.ref qa, .ref qb, .null, .null, .null])), (qa, arS G 8 3 f), (qb, arS G 6 4 (va_up f2 i (some qs)))] ++ (R ++ wX2 G qs u)) H := by
        rw [← List.append_assoc]
        exact hP
      have hD : va_D A ([(h0, .inr (5, [.ref qa, .ref qb, .null, .null, .null])), (qa, arS G 8 3 f), (qb, arS G 6 4 (va_up f2 i (some qs)))] ++ (R ++ wX2 G qs u)) := by
        rw [← List.append_assoc]
        exact hD
      refine lv_iinc (v := nI (i + 1)) (lv' := [(1, .int (nI (i + 1))), (0, .ref h0)]) hx hb dX5_init_70 hl (k := 1) rfl (nI_1 i) (by decide) rfl (fun ls hl => ?_)
      refine lv_goto (tgt := 51) hx hb dX5_init_73 (by decide) ?_
      exact ih (i + 1) (by omega) qa qb f (va_up f2 i (some qs)) (R ++ wX2 G qs u) H locs ls (by rw [List.length_append, hR]; show 32 + 5 * i + 5 = _; omega) (hsh.app (by omega)) (hrw.push hR) hP hD hS (lv_sub hl [1, 0] rfl)
  -- the SHEETS
  have loop1 : ∀ mm i, i + mm = 8 → ∀ (qa : Nat) (f : Nat → Option Nat) (R : va_W) (H : Heap) (locs : List Loc) (ls : Array Slot), R.length = 4 * i → shOk G R f i → va_P G.1 vwCl ([(h0, .inr (5, [.ref qa, .null, .null, .null, .null])), (qa, arS G 8 3 f)] ++ R) H → va_D A ([(h0, .inr (5, [.ref qa, .null, .null, .null, .null])), (qa, arS G 8 3 f)] ++ R) → va_S A s.heap H locs → lv_has ls 2 [(0, .ref h0), (1, .int (nI i))] → W p l e (headSpec (wsM kX5_init) { frames := 3, cells := 72, slots := 3391, locals := 52 }).room s m #[Value.ref h0] below meth c H locs (1 + 4 * i) (8 + 198 * i) (MQ below (va_Qv (fun L : va_W => rawX5 G h0 L) (fun L t => va_P G.1 vwCl L t.heap ∧ va_D A L) A) #[Value.ref h0] s 72 3391 A) (F0 m 15 ls []) := by
    intro mm
    induction mm with
    | zero =>
      intro i hi qa f R H locs ls hR hsh hP hD hS hl
      obtain rfl : i = 8 := by omega
      refine lv_iload_n hx hb dX5_init_15 rfl (lv_at hl 1 rfl) ?_
      refine lv_bipush (v := nI 8) hx hb dX5_init_16 (by decide) ?_
      refine lv_icmp_ge (tgt := 40) hx hb dX5_init_18 (by decide) (fun _ => ?_) (fun q => absurd (by decide) q)
      refine lv_aload_n hx hb dX5_init_40 rfl (lv_at hl 0 rfl) ?_
      refine lv_bipush (v := nI 6) hx hb dX5_init_41 (by decide) ?_
      refine wx_newq (N' := 6) hx hb 4 hown (hw clX5_16) hK.aR rfl hK hP hD hS hA (by decide) (by decide) (Nat.le_of_ble_eq_true rfl) (Nat.le_of_ble_eq_true rfl) (Nat.le_of_ble_eq_true rfl) dX5_init_43 (fun qb H hP hD hS => ?_)
      refine W.widen (k := 34) (n := 1598) (Nat.le_of_ble_eq_true rfl) (Nat.le_of_ble_eq_true rfl) ?_
      refine va_putF (D := G.1) (ci := 5) (v := .ref qb) (ty := .array (.object "WaveBuoys$Row")) (C := RX5) (T := TX5) (N := 5) hx hb hts (fun w h => List.mem_cons_of_mem _ (uw5 w h)) tyX5 tyX5_ok nmX5 hown hK.1.1 hP hD hS 0 rfl rfl 1 (by decide) (hw fl5_18) (fun _ h9 => h9) rfl hin rfl (by decide +kernel) rfl rfl (Nat.le_of_ble_eq_true rfl) dX5_init_46 (fun H locs hP hD hS => ?_)
      have hP : va_P G.1 vwCl (([(h0, .inr (5, [.ref qa, .ref qb, .null, .null, .null])), (qa, arS G 8 3 f)] ++ R) ++ [(qb, arS G 6 4 (fun _ => none))]) H := hP
      have hD : va_D A (([(h0, .inr (5, [.ref qa, .ref qb, .null, .null, .null])), (qa, arS G 8 3 f)] ++ R) ++ [(qb, arS G 6 4 (fun _ => none))]) := hD
      have hP := hP.swap
      have hD := hD.swap
      refine lv_iconst (v := nI 0) hx hb dX5_init_49 (by decide) ?_
      refine lv_istore_n (lv' := [(1, .int (nI 0)), (0, .ref h0)]) hx hb dX5_init_50 rfl hl (by decide) rfl (fun ls hl => ?_)
      exact loop2 6 0 (by omega) qa qb f (fun _ => none) R H locs ls (by omega) hsh (fun j hj => absurd hj (by omega)) hP hD hS (lv_sub hl [1, 0] rfl)
    | succ mm ih =>
      intro i hi qa f R H locs ls hR hsh hP hD hS hl
      refine lv_iload_n hx hb dX5_init_15 rfl (lv_at hl 1 rfl) ?_
      refine lv_bipush (v := nI 8) hx hb dX5_init_16 (by decide) ?_
      refine lv_icmp_ge (tgt := 40) hx hb dX5_init_18 (by decide) (fun q => absurd q (by
        rw [Int32.le_iff_toInt_le, nI_toInt (by omega), nI_toInt (by omega)]
        omega)) (fun _ => ?_)
      refine lv_aload_n hx hb dX5_init_21 rfl (lv_at hl 0 rfl) ?_
      refine va_get (D := G.1) (ci := 5) (v := .ref qa) (C := RX5) (T := TX5) (N := 5) hx hb hts (fun w h => List.mem_cons_of_mem _ (uw5 w h)) hown hK.1.1 hP 0 rfl rfl 0 (by decide) (hw fl5_11) (fun _ h9 => h9) rfl dX5_init_22 ?_
      refine lv_iload_n hx hb dX5_init_25 rfl (lv_at hl 1 rfl) ?_
      refine va_new (ci := 3) (fs := [.int 0, .int 0, .int 0, .null, .null, .null]) (C := RX3) (T := TX3) (N := 6) hx hb hts (fun w h => List.mem_cons_of_mem _ (uw3 w h)) tyX3 tyX3_ok hown (hw clX5_9) (hw iaX3) (hw in3) hK.1.1 hP hD hS hA rfl (fun j hj => by rcases (show j = 0 ∨ j = 1 ∨ j = 2 ∨ j = 3 ∨ j = 4 ∨ j = 5 by omega) with rfl | rfl | rfl | rfl | rfl | rfl <;> rfl) (by show 1 + 4 * i + 1 ≤ 72; omega) (by show 8 + 198 * i + 6 ≤ 3391; omega) dX5_init_26 (fun qs H hP hD hS => ?_)
      refine lv_dup hx hb dX5_init_29 rfl ?_
      have hPc := wx_P hP
      have hDc := wx_D hD
      have hFc := wx_F hD hS hA
      refine va_callv (va_runIN (As := []) (rest := [.ref qs, .int (nI i), .ref qa]) (host := RX5) ⟨hx, hb, hml, hown, hts⟩ (c_X3 l G qs H.size) ⟨va_cnB 0 hts (wsM_good (k := kX5_init) (k' := kX3_init) co3) rfl rfl rfl hK.nX5_15 (hw in3) ⟨by decide, by decide, by decide +kernel⟩ ⟨Nat.le_of_ble_eq_true rfl, Nat.le_of_ble_eq_true rfl⟩, rfl, hw im3⟩ ⟨kx_blind, fun U hU hW => ⟨rfl, by rw [hU], by rw [hU]; exact hPc, hK.warm hW, hDc⟩⟩ rfl rfl hl.1 rfl (lv_room (Nat.le_of_ble_eq_true rfl)) dX5_init_30 ⟨by show 1 + 4 * i + 1 + 3 ≤ 72; omega, by show 8 + 198 * i + 6 + 192 ≤ 3391; omega⟩) hS (fun q _ h => hFc q h) hFc (fun u t H1 locs ht hvm hw0 hB hz1 hk1 hS => ?_)
      obtain ⟨hP1, hD1⟩ := hB
      rw [ht] at hP1
      obtain ⟨hP, hD⟩ := wx_join hP hD hk1 hFc hP1 hD1
      generalize H1 = H at hP hS ⊢
      refine W.widen (k := 1 + 4 * (i + 1)) (n := 8 + 198 * (i + 1)) (by omega) (by omega) ?_
      refine va_astq (ci := 3) (r := (RX3, TX3, 6)) (n := 8) (vs := [.int 0, .int 0, .int 0, .ref (u.getD 0 0), .ref (u.getD 1 0), .ref (u.getD 2 0)]) (f := f) hx hb hK.1.1 hP hD hS 1 3 ([(h0, .inr (5, [.ref qa, .null, .null, .null, .null])), (qa, arS G 8 3 f)] ++ R).length rfl rfl (by rw [List.getElem?_append_right (Nat.le_refl _), Nat.sub_self]; rfl) rfl (vp_in_nI (show i < 8 by omega) (by omega)) dX5_init_33 (fun H locs hP hD hS => ?_)
      rw [nI_clamp (by omega)] at hP hD
      have hP : va_P G.1 vwCl ([(h0, .inr (5, [.ref qa, .null, .null, .null, .null])), (qa, arS G 8 3 (va_up f i (some qs)))] ++ (R ++ wX3 G qs u)) H := by
        rw [← List.append_assoc]
        exact hP
      have hD : va_D A ([(h0, .inr (5, [.ref qa, .null, .null, .null, .null])), (qa, arS G 8 3 (va_up f i (some qs)))] ++ (R ++ wX3 G qs u)) := by
        rw [← List.append_assoc]
        exact hD
      refine lv_iinc (v := nI (i + 1)) (lv' := [(1, .int (nI (i + 1))), (0, .ref h0)]) hx hb dX5_init_34 hl (k := 1) rfl (nI_1 i) (by decide) rfl (fun ls hl => ?_)
      refine lv_goto (tgt := 15) hx hb dX5_init_37 (by decide) ?_
      exact ih (i + 1) (by omega) qa (va_up f i (some qs)) (R ++ wX3 G qs u) H locs ls (by rw [List.length_append, hR]; show 4 * i + 4 = _; omega) (hsh.push hR) hP hD hS (lv_sub hl [1, 0] rfl)
  refine lv_aload_n hx hb dX5_init_0 rfl (lv_at hl 0 rfl) ?_
  refine W.objInit hx hb hown (hw mo5) (hw moI) (hw moC) rfl (by rw [hml]; exact hl.1) rfl dX5_init_1 (Nat.le_of_ble_eq_true rfl) (Nat.le_of_ble_eq_true rfl) ?_
  refine W.eq (g2 := F0 m 4 ls []) rfl ?_
  refine lv_aload_n hx hb dX5_init_4 rfl (lv_at hl 0 rfl) ?_
  refine lv_bipush (v := nI 8) hx hb dX5_init_5 (by decide) ?_
  refine wx_newq (N' := 8) hx hb 3 hown (hw clX5_9) hK.aS rfl hK hP hD hS hA (by decide) (by decide) (Nat.le_of_ble_eq_true rfl) (Nat.le_of_ble_eq_true rfl) (Nat.le_of_ble_eq_true rfl) dX5_init_7 (fun qa H hP hD hS => ?_)
  refine W.widen (k := 1) (n := 8) (Nat.le_of_ble_eq_true rfl) (Nat.le_of_ble_eq_true rfl) ?_
  refine va_putF (D := G.1) (ci := 5) (v := .ref qa) (ty := .array (.object "WaveBuoys$Sheet")) (C := RX5) (T := TX5) (N := 5) hx hb hts (fun w h => List.mem_cons_of_mem _ (uw5 w h)) tyX5 tyX5_ok nmX5 hown hK.1.1 hP hD hS 0 rfl rfl 0 (by decide) (hw fl5_11) (fun _ h9 => h9) rfl hin rfl (by decide +kernel) rfl rfl (Nat.le_of_ble_eq_true rfl) dX5_init_10 (fun H locs hP hD hS => ?_)
  refine lv_iconst (v := nI 0) hx hb dX5_init_13 (by decide) ?_
  refine lv_istore_n (lv' := [(1, .int (nI 0)), (0, .ref h0)]) hx hb dX5_init_14 rfl hl (by decide) rfl (fun ls hl => ?_)
  exact loop1 8 0 (by omega) qa (fun _ => none) [] H locs ls rfl (fun j hj => absurd hj (by omega)) hP hD hS (lv_sub hl [1, 0] rfl)
