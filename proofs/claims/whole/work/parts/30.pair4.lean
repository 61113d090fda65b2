/-! PAIRS: what a sheet is told about, what is missed, a row's numbers, its waves -/
theorem cntN_c {f g : Nat → Int32} (v : Int32) : ∀ {n : Nat}, (∀ i, i < n → f i = g i) → cntN f v n = cntN g v n
  | 0, _ => rfl
  | n + 1, h => by rw [cntN, cntN, cntN_c v (fun i hi => h i (by omega)), h n (by omega)]
theorem runN_c {f g : Nat → Int32} : ∀ {n : Nat}, (∀ i, i < n → f i = g i) → runN f n = runN g n
  | 0, _ => rfl
  | n + 1, h => by rw [runN, runN, runN_c (fun i hi => h i (by omega)), h n (by omega)]
theorem mostN_c {f g : Nat → Int32} : ∀ {n : Nat}, (∀ i, i < n → f i = g i) → mostN f n = mostN g n
  | 0, _ => rfl
  | n + 1, h => by rw [mostN, mostN, mostN_c (fun i hi => h i (by omega)), runN_c h]
theorem gapN_c {f g : Nat → Int32} : ∀ {n : Nat}, (∀ i, i < n → f i = g i) → gapN f n = gapN g n
  | 0, _ => rfl
  | n + 1, h => by rw [gapN, gapN, gapN_c (fun i hi => h i (by omega)), runN_c h]
theorem fctN_c {f g : Nat → Int32} (so : Int32) {n : Nat} (w : Nat) (h : ∀ i, i < n → f i = g i) : fctN f so n w = fctN g so n w := by
  unfold fctN
  rw [gapN_c h, mostN_c h, cntN_c _ h, cntN_c _ h]
theorem nzN_c {f g : Nat → Int32} : ∀ {n : Nat}, (∀ i, i < n → f i = g i) → nzN f n = nzN g n
  | 0, _ => rfl
  | n + 1, h => by rw [nzN, nzN, nzN_c (fun i hi => h i (by omega)), h n (by omega)]
theorem thN_c {f g : Nat → Int32} : ∀ {n : Nat}, (∀ i, i < n → f i = g i) → thN f n = thN g n
  | 0, _ => rfl
  | n + 1, h => by rw [thN, thN, thN_c (fun i hi => h i (by omega)), h n (by omega)]
theorem sideV_c {f g : Nat → Int64} : ∀ {n : Nat}, (∀ i, i < n → f i = g i) → sideV f n = sideV g n
  | 0, _ => rfl
  | n + 1, h => by rw [sideV, sideV, sideV_c (fun i hi => h i (by omega)), h n (by omega)]
theorem upB_c {f g : Nat → Int64} {n : Nat} (h : ∀ i, i < n + 1 → f i = g i) : upB f n = upB g n := by
  rw [upB, upB, sideV_c h, sideV_c (fun i hi => h i (by omega))]
theorem upN_c {f g : Nat → Int64} : ∀ {n : Nat}, (∀ i, i < n → f i = g i) → upN f n = upN g n
  | 0, _ => rfl
  | n + 1, h => by rw [upN, upN, upN_c (fun i hi => h i (by omega)), upB_c h]
theorem posU_c {f g : Nat → Int64} : ∀ {n : Nat}, (∀ i, i < n → f i = g i) → posU f n = posU g n
  | 0, _ => rfl
  | n + 1, h => by rw [posU, posU, posU_c (fun i hi => h i (by omega)), upB_c h, upN_c (fun i hi => h i (by omega))]
theorem Rel.mF {N j n : Nat} {μ : Mem} (h : ∀ i, i < n → μ.1 77 (64 * j + i) = μ.1 (7 + 4 * j + 2) i) : ∀ i, i < n → mF μ j i = μ.1 (7 + 4 * j + 2) i := h
theorem pm1p {n : Nat} (h : n ≤ 64) : (nI n - nI 1).toInt64.toInt = (n : Int) - 1 := by
  rw [Int32.toInt_toInt64]
  exact pm1 n h
theorem pr_miss (p : Int32) : PR kX5_miss kX6_miss [.int p] := by
  intro N μ d c hd hc hN hrel
  obtain ⟨n_, k1_, k2_, k3_, k4_, k0_, k5_, k6_, k7_, k8_⟩ := hrel.2.2.1
  have kp_ := pkN_le k2_
  have k9_ : (μ.1 73 8).toInt = 0 → pkN n_ = 0 := fun q => by rw [k0_ (by rw [← k4_]; exact st3_0 q)]; decide
  refine MW_of (by decide) [some (.ref 0), some (.int p)] rfl (Nat.le_of_ble_eq_true rfl) ?_
  refine wa_iload_n dX5_miss_0 rfl ?_
  refine wa_if_lt 15 dX5_miss_1 (by decide) (fun c1_1 => ?_) (fun c1_1 => ?_)
  · try simp (disch := omega) only [nI_toInt, Int32.toInt_toInt64] at c1_1
    refine wa_bipush (-2) dX5_miss_15 (by decide) ?_
    refine wa_iret dX5_miss_17 rfl ?_
    skip
    refine MW_of (by decide) [some (.ref 73), some (.int p), none] rfl (Nat.le_of_ble_eq_true rfl) ?_
    refine wa_aload_n dX6_miss_0 rfl ?_
    refine wa_getI dX6_miss_1 fgX6_179 (by first | assumption | rfl) (by rfl) ?_
    refine wa_if_eq 23 dX6_miss_4 (by decide) (fun c4_1 => ?_) (fun c4_1 => ?_)
    · try simp (disch := omega) only [nI_toInt, Int32.toInt_toInt64, not_true_eq_false] at c4_1
      try (exfalso; omega)
      all_goals
        skip
        refine wa_bipush (-2) dX6_miss_23 (by decide) ?_
        refine wa_iret dX6_miss_25 rfl ?_
        exact ⟨rfl, hrel.up⟩
    · try simp (disch := omega) only [nI_toInt, Int32.toInt_toInt64, not_true_eq_false] at c4_1
      try (exfalso; omega)
      all_goals
        skip
        refine wa_iload_n dX6_miss_7 rfl ?_
        refine wa_i2l dX6_miss_8 ?_
        refine wa_lconst (0) dX6_miss_9 (by decide) ?_
        refine wa_aload_n dX6_miss_10 rfl ?_
        refine wa_getI dX6_miss_11 fgX6_183 (by first | assumption | rfl) (by rfl) ?_
        refine wa_iconst (nI 1) dX6_miss_14 (by decide) ?_
        refine wa_isub dX6_miss_15 ?_
        refine wa_i2l dX6_miss_16 ?_
        refine wa_callS3 (k' := kX6_in) (d' := 0) dX6_miss_17 lmX6_60 ksX6_in (by decide) (by omega) (Nat.le_of_ble_eq_true rfl) ?_
        refine wp_X6_in (fun hi_ => ?_) (fun hi_ => ?_)
        · skip
          rw [k5_, pm1p (by omega), z64, Int32.toInt_toInt64] at hi_
          try (exfalso; omega)
          all_goals
            skip
            refine wa_if_neT 26 dX6_miss_20 (by decide) (by decide) ?_
            refine wa_aload_n dX6_miss_26 rfl ?_
            refine wa_getR dX6_miss_27 fgX6_36 (by first | assumption | rfl) (by rfl) ?_
            refine wa_iload_n dX6_miss_30 rfl ?_
            refine wa_zald _ dX6_miss_31 (by first | assumption | rfl) (by skip) (by omega) ?_
            refine wa_istore_n dX6_miss_32 (by decide) ?_
            refine wa_aload_n dX6_miss_33 rfl ?_
            refine wa_getR dX6_miss_34 fgX6_36 (by first | assumption | rfl) (by rfl) ?_
            refine wa_iload_n dX6_miss_37 rfl ?_
            refine wa_iconst (nI 1) dX6_miss_38 (by decide) ?_
            refine wa_zast _ dX6_miss_39 (by first | assumption | rfl) (by skip) (by omega) (Or.inr rfl) ?_
            refine wa_iload_n dX6_miss_40 rfl ?_
            refine wa_if_eq 48 dX6_miss_41 (by decide) (fun c41_3 => ?_) (fun c41_3 => ?_)
            · try simp (disch := omega) only [nI_toInt, Int32.toInt_toInt64, not_true_eq_false] at c41_3
              try (exfalso; omega)
              all_goals
                skip
                refine wa_iconst (nI 1) dX6_miss_48 (by decide) ?_
                refine wa_iret dX6_miss_49 rfl ?_
                exact hQ
            · try simp (disch := omega) only [nI_toInt, Int32.toInt_toInt64, not_true_eq_false] at c41_3
              try (exfalso; omega)
              all_goals
                skip
                refine wa_iconst (nI 0) dX6_miss_44 (by decide) ?_
                refine wa_goto 49 dX6_miss_45 (by decide) ?_
                refine wa_iret dX6_miss_49 rfl ?_
                exact hQ
        · skip
          rw [k5_, pm1p (by omega), z64, Int32.toInt_toInt64] at hi_
          try (exfalso; omega)
          all_goals
            skip
            refine wa_if_neF 26 dX6_miss_20 (by decide) (by decide) ?_
            refine wa_bipush (-2) dX6_miss_23 (by decide) ?_
            refine wa_iret dX6_miss_25 rfl ?_
            exact ⟨rfl, hrel.up⟩
  · try simp (disch := omega) only [nI_toInt, Int32.toInt_toInt64] at c1_1
    refine wa_iload_n dX5_miss_4 rfl ?_
    refine wa_aload_n dX5_miss_5 rfl ?_
    refine wa_getR dX5_miss_6 fgX5_26 (by first | assumption | rfl) (by rfl) ?_
    refine wa_callV0 (k' := kX1_size) (d' := 2) dX5_miss_9 lmX5_206 kvX1_size (by first | assumption | rfl) (by rfl) (by decide) (by omega) (Nat.le_of_ble_eq_true rfl) ?_
    refine wp_X1_size (n := n_) (by omega) k1_ k2_ ?_
    refine wa_ic_lt 18 dX5_miss_12 (by decide) (fun c12_3 => ?_) (fun c12_3 => ?_)
    · try simp (disch := omega) only [nI_toInt, Int32.toInt_toInt64] at c12_3
      refine wa_aload_n dX5_miss_18 rfl ?_
      refine wa_getR dX5_miss_19 fgX5_26 (by first | assumption | rfl) (by rfl) ?_
      obtain ⟨a_, ha_, hpa_⟩ := nI_ex (x := p) (n := pkN n_) (by omega) (by omega) (by omega)
      refine wa_iload_n dX5_miss_22 rfl ?_
      refine wa_callV1 (k' := kX1_forget) (d' := 0) dX5_miss_23 lmX5_207 kvX1_forget (by first | assumption | rfl) (by rfl) (by decide) (by omega) (Nat.le_of_ble_eq_true rfl) ?_
      refine wp_X1_forget hpa_ (by omega) (fun hl_ => ?_) (fun hl_ => ?_)
      · skip
        refine wa_if_eqF 33 dX5_miss_26 (by decide) (by decide) ?_
        refine wa_iconst (nI 1) dX5_miss_29 (by decide) ?_
        refine wa_goto 34 dX5_miss_30 (by decide) ?_
        refine wa_iret dX5_miss_34 rfl ?_
        rw [hpa_]
        have ea_ : (nI a_).toInt = a_ := nI_toInt (by omega)
        refine MW_of (by decide) [some (.ref 73), some (.int (nI a_)), none] rfl (Nat.le_of_ble_eq_true rfl) ?_
        have v6_ := k6_ a_ ha_
        refine wa_aload_n dX6_miss_0 rfl ?_
        refine wa_getI dX6_miss_1 fgX6_179 (by first | assumption | rfl) (by rfl) ?_
        refine wa_if_eqF 23 dX6_miss_4 (by decide) (by simp (disch := omega) only [sI_off, bI_off, sL_off, bL_off, r1l, r2l, rb1l, rb2l, r1m, r2m, rb1e, rb2e, r1e, r2e]; intro q_; have := k9_ q_; omega) ?_
        refine wa_iload_n dX6_miss_7 rfl ?_
        refine wa_i2l dX6_miss_8 ?_
        refine wa_lconst (0) dX6_miss_9 (by decide) ?_
        refine wa_aload_n dX6_miss_10 rfl ?_
        refine wa_getI dX6_miss_11 fgX6_183 (by first | assumption | rfl) (by rfl) ?_
        refine wa_iconst (nI 1) dX6_miss_14 (by decide) ?_
        refine wa_isub dX6_miss_15 ?_
        refine wa_i2l dX6_miss_16 ?_
        refine wa_callS3 (k' := kX6_in) (d' := 0) dX6_miss_17 lmX6_60 ksX6_in (by decide) (by omega) (Nat.le_of_ble_eq_true rfl) ?_
        refine in_1 (by simp (disch := omega) only [sI_off, bI_off, sL_off, bL_off, r1l, r2l, rb1l, rb2l, r1m, r2m, rb1e, rb2e, r1e, r2e]; rw [k5_, pm1p (by omega), z64, Int32.toInt_toInt64]; omega) ?_
        refine wa_if_neT 26 dX6_miss_20 (by decide) (by decide) ?_
        refine wa_aload_n dX6_miss_26 rfl ?_
        refine wa_getR dX6_miss_27 fgX6_36 (by first | assumption | rfl) (by rfl) ?_
        refine wa_iload_n dX6_miss_30 rfl ?_
        refine wa_zald _ dX6_miss_31 (by first | assumption | rfl) (by first | with_reducible rfl | with_reducible assumption | with_reducible exact ix_ma _ _ _ | with_reducible exact ix_maa _ _ _ _ | with_reducible exact ix_a _ _ | with_reducible exact ix_mama _ _ _ _ _) (by omega) ?_
        refine wa_istore_n dX6_miss_32 (by decide) ?_
        refine wa_aload_n dX6_miss_33 rfl ?_
        refine wa_getR dX6_miss_34 fgX6_36 (by first | assumption | rfl) (by rfl) ?_
        refine wa_iload_n dX6_miss_37 rfl ?_
        refine wa_iconst (nI 1) dX6_miss_38 (by decide) ?_
        refine wa_zast _ dX6_miss_39 (by first | assumption | rfl) (by first | with_reducible rfl | with_reducible assumption | with_reducible exact ix_ma _ _ _ | with_reducible exact ix_maa _ _ _ _ | with_reducible exact ix_a _ _ | with_reducible exact ix_mama _ _ _ _ _) (by omega) (Or.inr rfl) ?_
        refine wa_iload_n dX6_miss_40 rfl ?_
        refine wa_if_eq 48 dX6_miss_41 (by decide) (fun c41_2 => ?_) (fun c41_2 => ?_)
        · try simp (disch := omega) only [nI_toInt, Int32.toInt_toInt64, not_true_eq_false, sI_off, r1m, v6_] at c41_2
          try (exfalso; omega)
          all_goals
            skip
            refine wa_iconst (nI 1) dX6_miss_48 (by decide) ?_
            refine wa_iret dX6_miss_49 rfl ?_
            refine ⟨rfl, ?_⟩
            refine Rel_P (n := n_) hrel ?rs ?relp ?fs ?fr ?fw ?fm
            case fs =>
              intro j_ hj_
              refine ⟨?_, ?_, ?_, ?_, ?_, ?_, fun i_ hi_ => ?_, fun i_ hi_ => ?_⟩
              all_goals
                simp (disch := omega) only [sI_off, bI_off, sL_off, bL_off, r1l, r2l, rb1l, rb2l, r1m, r2m, rb1e, rb2e,r1e]
            case fr =>
              intro r_ hr_
              refine ⟨?_, ?_, ?_, fun i_ hi_ => ?_⟩
              all_goals
                simp (disch := omega) only [sI_off, bI_off, sL_off, bL_off, r1l, r2l, rb1l, rb2l, r1m, r2m, rb1e, rb2e,r1e]
            case fw =>
              refine ⟨?_, fun q_ ha_ hb_ => ?_⟩
              all_goals
                simp (disch := omega) only [sI_off, bI_off, sL_off, bL_off, r1l, r2l, rb1l, rb2l, r1m, r2m, rb1e, rb2e,r1e]
            case fm =>
              refine ⟨?_, ?_, fun q_ ha_ hb_ => ?_⟩
              all_goals
                simp (disch := omega) only [sI_off, bI_off, sL_off, bL_off, r1l, r2l, rb1l, rb2l, r1m, r2m, rb1e, rb2e,r1e]
            case rs =>
              obtain ⟨n8_, r8_⟩ := hrel.1 8 (by omega)
              refine ⟨n8_, r8_.fr ⟨?_, ?_, ?_, ?_, ?_, ?_, fun i_ hi_ => ?_, fun i_ hi_ => ?_⟩⟩
              all_goals simp (disch := omega) only [sI_off, bI_off, sL_off, bL_off, r1l, r2l, rb1l, rb2l, r1m, r2m, rb1e, rb2e, r1e, r2e]
            case relp =>
              refine ⟨by simp (disch := omega) only [sI_off, bI_off, sL_off, bL_off, r1l, r2l, rb1l, rb2l, r1m, r2m, rb1e, rb2e, r1e, r2e]; exact k1_, k2_, by simp (disch := omega) only [sI_off, bI_off, sL_off, bL_off, r1l, r2l, rb1l, rb2l, r1m, r2m, rb1e, rb2e, r1e, r2e]; exact k3_, by simp (disch := omega) only [sI_off, bI_off, sL_off, bL_off, r1l, r2l, rb1l, rb2l, r1m, r2m, rb1e, rb2e, r1e, r2e]; exact k4_, by simp (disch := omega) only [sI_off, bI_off, sL_off, bL_off, r1l, r2l, rb1l, rb2l, r1m, r2m, rb1e, rb2e, r1e, r2e]; exact k0_, by simp (disch := omega) only [sI_off, bI_off, sL_off, bL_off, r1l, r2l, rb1l, rb2l, r1m, r2m, rb1e, rb2e, r1e, r2e]; exact k5_, fun q_ h1_ => ?_, fun q_ h1_ => ?_, fun q_ h1_ h2_ => ?_⟩
              · by_cases hq_ : q_ = a_
                · rw [hq_]; simp (disch := omega) only [sI_off, bI_off, sL_off, bL_off, r1l, r2l, rb1l, rb2l, r1m, r2m, rb1e, rb2e, r1e, r2e]
                · simp (disch := omega) only [sI_off, bI_off, sL_off, bL_off, r1l, r2l, rb1l, rb2l, r1m, r2m, rb1e, rb2e, r1e, r2e]; exact k6_ q_ h1_
              · by_cases hq_ : q_ = a_
                · rw [hq_]; simp (disch := omega) only [sI_off, bI_off, sL_off, bL_off, r1l, r2l, rb1l, rb2l, r1m, r2m, rb1e, rb2e, r1e, r2e]; exact Or.inr trivial
                · simp (disch := omega) only [sI_off, bI_off, sL_off, bL_off, r1l, r2l, rb1l, rb2l, r1m, r2m, rb1e, rb2e, r1e, r2e]; exact k7_ q_ h1_
              · simp (disch := omega) only [sI_off, bI_off, sL_off, bL_off, r1l, r2l, rb1l, rb2l, r1m, r2m, rb1e, rb2e, r1e, r2e]; exact k8_ q_ h1_ h2_
        · try simp (disch := omega) only [nI_toInt, Int32.toInt_toInt64, not_true_eq_false, sI_off, r1m, v6_] at c41_2
          try (exfalso; omega)
          all_goals
            skip
            refine wa_iconst (nI 0) dX6_miss_44 (by decide) ?_
            refine wa_goto 49 dX6_miss_45 (by decide) ?_
            refine wa_iret dX6_miss_49 rfl ?_
            refine ⟨rfl, ?_⟩
            refine Rel_P (n := n_) hrel ?rs ?relp ?fs ?fr ?fw ?fm
            case fs =>
              intro j_ hj_
              refine ⟨?_, ?_, ?_, ?_, ?_, ?_, fun i_ hi_ => ?_, fun i_ hi_ => ?_⟩
              all_goals
                simp (disch := omega) only [sI_off, bI_off, sL_off, bL_off, r1l, r2l, rb1l, rb2l, r1m, r2m, rb1e, rb2e,r1e]
            case fr =>
              intro r_ hr_
              refine ⟨?_, ?_, ?_, fun i_ hi_ => ?_⟩
              all_goals
                simp (disch := omega) only [sI_off, bI_off, sL_off, bL_off, r1l, r2l, rb1l, rb2l, r1m, r2m, rb1e, rb2e,r1e]
            case fw =>
              refine ⟨?_, fun q_ ha_ hb_ => ?_⟩
              all_goals
                simp (disch := omega) only [sI_off, bI_off, sL_off, bL_off, r1l, r2l, rb1l, rb2l, r1m, r2m, rb1e, rb2e,r1e]
            case fm =>
              refine ⟨?_, ?_, fun q_ ha_ hb_ => ?_⟩
              all_goals
                simp (disch := omega) only [sI_off, bI_off, sL_off, bL_off, r1l, r2l, rb1l, rb2l, r1m, r2m, rb1e, rb2e,r1e]
            case rs =>
              obtain ⟨n8_, r8_⟩ := hrel.1 8 (by omega)
              refine ⟨n8_, r8_.fr ⟨?_, ?_, ?_, ?_, ?_, ?_, fun i_ hi_ => ?_, fun i_ hi_ => ?_⟩⟩
              all_goals simp (disch := omega) only [sI_off, bI_off, sL_off, bL_off, r1l, r2l, rb1l, rb2l, r1m, r2m, rb1e, rb2e, r1e, r2e]
            case relp =>
              refine ⟨by simp (disch := omega) only [sI_off, bI_off, sL_off, bL_off, r1l, r2l, rb1l, rb2l, r1m, r2m, rb1e, rb2e, r1e, r2e]; exact k1_, k2_, by simp (disch := omega) only [sI_off, bI_off, sL_off, bL_off, r1l, r2l, rb1l, rb2l, r1m, r2m, rb1e, rb2e, r1e, r2e]; exact k3_, by simp (disch := omega) only [sI_off, bI_off, sL_off, bL_off, r1l, r2l, rb1l, rb2l, r1m, r2m, rb1e, rb2e, r1e, r2e]; exact k4_, by simp (disch := omega) only [sI_off, bI_off, sL_off, bL_off, r1l, r2l, rb1l, rb2l, r1m, r2m, rb1e, rb2e, r1e, r2e]; exact k0_, by simp (disch := omega) only [sI_off, bI_off, sL_off, bL_off, r1l, r2l, rb1l, rb2l, r1m, r2m, rb1e, rb2e, r1e, r2e]; exact k5_, fun q_ h1_ => ?_, fun q_ h1_ => ?_, fun q_ h1_ h2_ => ?_⟩
              · by_cases hq_ : q_ = a_
                · rw [hq_]; simp (disch := omega) only [sI_off, bI_off, sL_off, bL_off, r1l, r2l, rb1l, rb2l, r1m, r2m, rb1e, rb2e, r1e, r2e]
                · simp (disch := omega) only [sI_off, bI_off, sL_off, bL_off, r1l, r2l, rb1l, rb2l, r1m, r2m, rb1e, rb2e, r1e, r2e]; exact k6_ q_ h1_
              · by_cases hq_ : q_ = a_
                · rw [hq_]; simp (disch := omega) only [sI_off, bI_off, sL_off, bL_off, r1l, r2l, rb1l, rb2l, r1m, r2m, rb1e, rb2e, r1e, r2e]; exact Or.inr trivial
                · simp (disch := omega) only [sI_off, bI_off, sL_off, bL_off, r1l, r2l, rb1l, rb2l, r1m, r2m, rb1e, rb2e, r1e, r2e]; exact k7_ q_ h1_
              · simp (disch := omega) only [sI_off, bI_off, sL_off, bL_off, r1l, r2l, rb1l, rb2l, r1m, r2m, rb1e, rb2e, r1e, r2e]; exact k8_ q_ h1_ h2_
      · skip
        refine wa_if_eqT 33 dX5_miss_26 (by decide) (by decide) ?_
        refine wa_iconst (nI 0) dX5_miss_33 (by decide) ?_
        refine wa_iret dX5_miss_34 rfl ?_
        rw [hpa_]
        have ea_ : (nI a_).toInt = a_ := nI_toInt (by omega)
        refine MW_of (by decide) [some (.ref 73), some (.int (nI a_)), none] rfl (Nat.le_of_ble_eq_true rfl) ?_
        have v6_ := k6_ a_ ha_
        refine wa_aload_n dX6_miss_0 rfl ?_
        refine wa_getI dX6_miss_1 fgX6_179 (by first | assumption | rfl) (by rfl) ?_
        refine wa_if_eqF 23 dX6_miss_4 (by decide) (by simp (disch := omega) only [sI_off, bI_off, sL_off, bL_off, r1l, r2l, rb1l, rb2l, r1m, r2m, rb1e, rb2e, r1e, r2e]; intro q_; have := k9_ q_; omega) ?_
        refine wa_iload_n dX6_miss_7 rfl ?_
        refine wa_i2l dX6_miss_8 ?_
        refine wa_lconst (0) dX6_miss_9 (by decide) ?_
        refine wa_aload_n dX6_miss_10 rfl ?_
        refine wa_getI dX6_miss_11 fgX6_183 (by first | assumption | rfl) (by rfl) ?_
        refine wa_iconst (nI 1) dX6_miss_14 (by decide) ?_
        refine wa_isub dX6_miss_15 ?_
        refine wa_i2l dX6_miss_16 ?_
        refine wa_callS3 (k' := kX6_in) (d' := 0) dX6_miss_17 lmX6_60 ksX6_in (by decide) (by omega) (Nat.le_of_ble_eq_true rfl) ?_
        refine in_1 (by simp (disch := omega) only [sI_off, bI_off, sL_off, bL_off, r1l, r2l, rb1l, rb2l, r1m, r2m, rb1e, rb2e, r1e, r2e]; rw [k5_, pm1p (by omega), z64, Int32.toInt_toInt64]; omega) ?_
        refine wa_if_neT 26 dX6_miss_20 (by decide) (by decide) ?_
        refine wa_aload_n dX6_miss_26 rfl ?_
        refine wa_getR dX6_miss_27 fgX6_36 (by first | assumption | rfl) (by rfl) ?_
        refine wa_iload_n dX6_miss_30 rfl ?_
        refine wa_zald _ dX6_miss_31 (by first | assumption | rfl) (by first | with_reducible rfl | with_reducible assumption | with_reducible exact ix_ma _ _ _ | with_reducible exact ix_maa _ _ _ _ | with_reducible exact ix_a _ _ | with_reducible exact ix_mama _ _ _ _ _) (by omega) ?_
        refine wa_istore_n dX6_miss_32 (by decide) ?_
        refine wa_aload_n dX6_miss_33 rfl ?_
        refine wa_getR dX6_miss_34 fgX6_36 (by first | assumption | rfl) (by rfl) ?_
        refine wa_iload_n dX6_miss_37 rfl ?_
        refine wa_iconst (nI 1) dX6_miss_38 (by decide) ?_
        refine wa_zast _ dX6_miss_39 (by first | assumption | rfl) (by first | with_reducible rfl | with_reducible assumption | with_reducible exact ix_ma _ _ _ | with_reducible exact ix_maa _ _ _ _ | with_reducible exact ix_a _ _ | with_reducible exact ix_mama _ _ _ _ _) (by omega) (Or.inr rfl) ?_
        refine wa_iload_n dX6_miss_40 rfl ?_
        refine wa_if_eq 48 dX6_miss_41 (by decide) (fun c41_2 => ?_) (fun c41_2 => ?_)
        · try simp (disch := omega) only [nI_toInt, Int32.toInt_toInt64, not_true_eq_false, sI_off, r1m, v6_] at c41_2
          try (exfalso; omega)
          all_goals
            skip
            refine wa_iconst (nI 1) dX6_miss_48 (by decide) ?_
            refine wa_iret dX6_miss_49 rfl ?_
            refine ⟨rfl, ?_⟩
            refine Rel_P (n := n_) hrel ?rs ?relp ?fs ?fr ?fw ?fm
            case fs =>
              intro j_ hj_
              refine ⟨?_, ?_, ?_, ?_, ?_, ?_, fun i_ hi_ => ?_, fun i_ hi_ => ?_⟩
              all_goals
                simp (disch := omega) only [sI_off, bI_off, sL_off, bL_off, r1l, r2l, rb1l, rb2l, r1m, r2m, rb1e, rb2e,r1e]
            case fr =>
              intro r_ hr_
              refine ⟨?_, ?_, ?_, fun i_ hi_ => ?_⟩
              all_goals
                simp (disch := omega) only [sI_off, bI_off, sL_off, bL_off, r1l, r2l, rb1l, rb2l, r1m, r2m, rb1e, rb2e,r1e]
            case fw =>
              refine ⟨?_, fun q_ ha_ hb_ => ?_⟩
              all_goals
                simp (disch := omega) only [sI_off, bI_off, sL_off, bL_off, r1l, r2l, rb1l, rb2l, r1m, r2m, rb1e, rb2e,r1e]
            case fm =>
              refine ⟨?_, ?_, fun q_ ha_ hb_ => ?_⟩
              all_goals
                simp (disch := omega) only [sI_off, bI_off, sL_off, bL_off, r1l, r2l, rb1l, rb2l, r1m, r2m, rb1e, rb2e,r1e]
            case rs =>
              obtain ⟨n8_, r8_⟩ := hrel.1 8 (by omega)
              refine ⟨n8_, r8_.fr ⟨?_, ?_, ?_, ?_, ?_, ?_, fun i_ hi_ => ?_, fun i_ hi_ => ?_⟩⟩
              all_goals simp (disch := omega) only [sI_off, bI_off, sL_off, bL_off, r1l, r2l, rb1l, rb2l, r1m, r2m, rb1e, rb2e, r1e, r2e]
            case relp =>
              refine ⟨by simp (disch := omega) only [sI_off, bI_off, sL_off, bL_off, r1l, r2l, rb1l, rb2l, r1m, r2m, rb1e, rb2e, r1e, r2e]; exact k1_, k2_, by simp (disch := omega) only [sI_off, bI_off, sL_off, bL_off, r1l, r2l, rb1l, rb2l, r1m, r2m, rb1e, rb2e, r1e, r2e]; exact k3_, by simp (disch := omega) only [sI_off, bI_off, sL_off, bL_off, r1l, r2l, rb1l, rb2l, r1m, r2m, rb1e, rb2e, r1e, r2e]; exact k4_, by simp (disch := omega) only [sI_off, bI_off, sL_off, bL_off, r1l, r2l, rb1l, rb2l, r1m, r2m, rb1e, rb2e, r1e, r2e]; exact k0_, by simp (disch := omega) only [sI_off, bI_off, sL_off, bL_off, r1l, r2l, rb1l, rb2l, r1m, r2m, rb1e, rb2e, r1e, r2e]; exact k5_, fun q_ h1_ => ?_, fun q_ h1_ => ?_, fun q_ h1_ h2_ => ?_⟩
              · by_cases hq_ : q_ = a_
                · rw [hq_]; simp (disch := omega) only [sI_off, bI_off, sL_off, bL_off, r1l, r2l, rb1l, rb2l, r1m, r2m, rb1e, rb2e, r1e, r2e]
                · simp (disch := omega) only [sI_off, bI_off, sL_off, bL_off, r1l, r2l, rb1l, rb2l, r1m, r2m, rb1e, rb2e, r1e, r2e]; exact k6_ q_ h1_
              · by_cases hq_ : q_ = a_
                · rw [hq_]; simp (disch := omega) only [sI_off, bI_off, sL_off, bL_off, r1l, r2l, rb1l, rb2l, r1m, r2m, rb1e, rb2e, r1e, r2e]; exact Or.inr trivial
                · simp (disch := omega) only [sI_off, bI_off, sL_off, bL_off, r1l, r2l, rb1l, rb2l, r1m, r2m, rb1e, rb2e, r1e, r2e]; exact k7_ q_ h1_
              · simp (disch := omega) only [sI_off, bI_off, sL_off, bL_off, r1l, r2l, rb1l, rb2l, r1m, r2m, rb1e, rb2e, r1e, r2e]; exact k8_ q_ h1_ h2_
        · try simp (disch := omega) only [nI_toInt, Int32.toInt_toInt64, not_true_eq_false, sI_off, r1m, v6_] at c41_2
          try (exfalso; omega)
          all_goals
            skip
            refine wa_iconst (nI 0) dX6_miss_44 (by decide) ?_
            refine wa_goto 49 dX6_miss_45 (by decide) ?_
            refine wa_iret dX6_miss_49 rfl ?_
            refine ⟨rfl, ?_⟩
            refine Rel_P (n := n_) hrel ?rs ?relp ?fs ?fr ?fw ?fm
            case fs =>
              intro j_ hj_
              refine ⟨?_, ?_, ?_, ?_, ?_, ?_, fun i_ hi_ => ?_, fun i_ hi_ => ?_⟩
              all_goals
                simp (disch := omega) only [sI_off, bI_off, sL_off, bL_off, r1l, r2l, rb1l, rb2l, r1m, r2m, rb1e, rb2e,r1e]
            case fr =>
              intro r_ hr_
              refine ⟨?_, ?_, ?_, fun i_ hi_ => ?_⟩
              all_goals
                simp (disch := omega) only [sI_off, bI_off, sL_off, bL_off, r1l, r2l, rb1l, rb2l, r1m, r2m, rb1e, rb2e,r1e]
            case fw =>
              refine ⟨?_, fun q_ ha_ hb_ => ?_⟩
              all_goals
                simp (disch := omega) only [sI_off, bI_off, sL_off, bL_off, r1l, r2l, rb1l, rb2l, r1m, r2m, rb1e, rb2e,r1e]
            case fm =>
              refine ⟨?_, ?_, fun q_ ha_ hb_ => ?_⟩
              all_goals
                simp (disch := omega) only [sI_off, bI_off, sL_off, bL_off, r1l, r2l, rb1l, rb2l, r1m, r2m, rb1e, rb2e,r1e]
            case rs =>
              obtain ⟨n8_, r8_⟩ := hrel.1 8 (by omega)
              refine ⟨n8_, r8_.fr ⟨?_, ?_, ?_, ?_, ?_, ?_, fun i_ hi_ => ?_, fun i_ hi_ => ?_⟩⟩
              all_goals simp (disch := omega) only [sI_off, bI_off, sL_off, bL_off, r1l, r2l, rb1l, rb2l, r1m, r2m, rb1e, rb2e, r1e, r2e]
            case relp =>
              refine ⟨by simp (disch := omega) only [sI_off, bI_off, sL_off, bL_off, r1l, r2l, rb1l, rb2l, r1m, r2m, rb1e, rb2e, r1e, r2e]; exact k1_, k2_, by simp (disch := omega) only [sI_off, bI_off, sL_off, bL_off, r1l, r2l, rb1l, rb2l, r1m, r2m, rb1e, rb2e, r1e, r2e]; exact k3_, by simp (disch := omega) only [sI_off, bI_off, sL_off, bL_off, r1l, r2l, rb1l, rb2l, r1m, r2m, rb1e, rb2e, r1e, r2e]; exact k4_, by simp (disch := omega) only [sI_off, bI_off, sL_off, bL_off, r1l, r2l, rb1l, rb2l, r1m, r2m, rb1e, rb2e, r1e, r2e]; exact k0_, by simp (disch := omega) only [sI_off, bI_off, sL_off, bL_off, r1l, r2l, rb1l, rb2l, r1m, r2m, rb1e, rb2e, r1e, r2e]; exact k5_, fun q_ h1_ => ?_, fun q_ h1_ => ?_, fun q_ h1_ h2_ => ?_⟩
              · by_cases hq_ : q_ = a_
                · rw [hq_]; simp (disch := omega) only [sI_off, bI_off, sL_off, bL_off, r1l, r2l, rb1l, rb2l, r1m, r2m, rb1e, rb2e, r1e, r2e]
                · simp (disch := omega) only [sI_off, bI_off, sL_off, bL_off, r1l, r2l, rb1l, rb2l, r1m, r2m, rb1e, rb2e, r1e, r2e]; exact k6_ q_ h1_
              · by_cases hq_ : q_ = a_
                · rw [hq_]; simp (disch := omega) only [sI_off, bI_off, sL_off, bL_off, r1l, r2l, rb1l, rb2l, r1m, r2m, rb1e, rb2e, r1e, r2e]; exact Or.inr trivial
                · simp (disch := omega) only [sI_off, bI_off, sL_off, bL_off, r1l, r2l, rb1l, rb2l, r1m, r2m, rb1e, rb2e, r1e, r2e]; exact k7_ q_ h1_
              · simp (disch := omega) only [sI_off, bI_off, sL_off, bL_off, r1l, r2l, rb1l, rb2l, r1m, r2m, rb1e, rb2e, r1e, r2e]; exact k8_ q_ h1_ h2_
    · try simp (disch := omega) only [nI_toInt, Int32.toInt_toInt64] at c12_3
      refine wa_bipush (-2) dX5_miss_15 (by decide) ?_
      refine wa_iret dX5_miss_17 rfl ?_
      skip
      refine MW_of (by decide) [some (.ref 73), some (.int p), none] rfl (Nat.le_of_ble_eq_true rfl) ?_
      refine wa_aload_n dX6_miss_0 rfl ?_
      refine wa_getI dX6_miss_1 fgX6_179 (by first | assumption | rfl) (by rfl) ?_
      refine wa_if_eq 23 dX6_miss_4 (by decide) (fun c4_1 => ?_) (fun c4_1 => ?_)
      · try simp (disch := omega) only [nI_toInt, Int32.toInt_toInt64, not_true_eq_false] at c4_1
        try (exfalso; omega)
        all_goals
          skip
          refine wa_bipush (-2) dX6_miss_23 (by decide) ?_
          refine wa_iret dX6_miss_25 rfl ?_
          exact ⟨rfl, hrel.up⟩
      · try simp (disch := omega) only [nI_toInt, Int32.toInt_toInt64, not_true_eq_false] at c4_1
        try (exfalso; omega)
        all_goals
          skip
          refine wa_iload_n dX6_miss_7 rfl ?_
          refine wa_i2l dX6_miss_8 ?_
          refine wa_lconst (0) dX6_miss_9 (by decide) ?_
          refine wa_aload_n dX6_miss_10 rfl ?_
          refine wa_getI dX6_miss_11 fgX6_183 (by first | assumption | rfl) (by rfl) ?_
          refine wa_iconst (nI 1) dX6_miss_14 (by decide) ?_
          refine wa_isub dX6_miss_15 ?_
          refine wa_i2l dX6_miss_16 ?_
          refine wa_callS3 (k' := kX6_in) (d' := 0) dX6_miss_17 lmX6_60 ksX6_in (by decide) (by omega) (Nat.le_of_ble_eq_true rfl) ?_
          refine wp_X6_in (fun hi_ => ?_) (fun hi_ => ?_)
          · skip
            rw [k5_, pm1p (by omega), z64, Int32.toInt_toInt64] at hi_
            try (exfalso; omega)
            all_goals
              skip
              refine wa_if_neT 26 dX6_miss_20 (by decide) (by decide) ?_
              refine wa_aload_n dX6_miss_26 rfl ?_
              refine wa_getR dX6_miss_27 fgX6_36 (by first | assumption | rfl) (by rfl) ?_
              refine wa_iload_n dX6_miss_30 rfl ?_
              refine wa_zald _ dX6_miss_31 (by first | assumption | rfl) (by skip) (by omega) ?_
              refine wa_istore_n dX6_miss_32 (by decide) ?_
              refine wa_aload_n dX6_miss_33 rfl ?_
              refine wa_getR dX6_miss_34 fgX6_36 (by first | assumption | rfl) (by rfl) ?_
              refine wa_iload_n dX6_miss_37 rfl ?_
              refine wa_iconst (nI 1) dX6_miss_38 (by decide) ?_
              refine wa_zast _ dX6_miss_39 (by first | assumption | rfl) (by skip) (by omega) (Or.inr rfl) ?_
              refine wa_iload_n dX6_miss_40 rfl ?_
              refine wa_if_eq 48 dX6_miss_41 (by decide) (fun c41_3 => ?_) (fun c41_3 => ?_)
              · try simp (disch := omega) only [nI_toInt, Int32.toInt_toInt64, not_true_eq_false] at c41_3
                try (exfalso; omega)
                all_goals
                  skip
                  refine wa_iconst (nI 1) dX6_miss_48 (by decide) ?_
                  refine wa_iret dX6_miss_49 rfl ?_
                  exact hQ
              · try simp (disch := omega) only [nI_toInt, Int32.toInt_toInt64, not_true_eq_false] at c41_3
                try (exfalso; omega)
                all_goals
                  skip
                  refine wa_iconst (nI 0) dX6_miss_44 (by decide) ?_
                  refine wa_goto 49 dX6_miss_45 (by decide) ?_
                  refine wa_iret dX6_miss_49 rfl ?_
                  exact hQ
          · skip
            rw [k5_, pm1p (by omega), z64, Int32.toInt_toInt64] at hi_
            try (exfalso; omega)
            all_goals
              skip
              refine wa_if_neF 26 dX6_miss_20 (by decide) (by decide) ?_
              refine wa_bipush (-2) dX6_miss_23 (by decide) ?_
              refine wa_iret dX6_miss_25 rfl ?_
              exact ⟨rfl, hrel.up⟩
theorem k7_L : (7 : Int64).toInt = 7 := by decide
theorem in8_1 {d j : Nat} {μ : Mem} {Q : QM} (hj : j < 8) (hQ : Q (some (.int (nI 1))) μ) : MW kX6_in d [.long (nI j).toInt64, .long 0, .long 7] μ Q :=
  in_1 (by rw [Int32.toInt_toInt64, z64, k7_L, nI_toInt (by omega)]; omega) hQ
theorem in8_0 {d : Nat} {k : Int32} {μ : Mem} {Q : QM} (h : oob k 8) (hQ : Q (some (.int (nI 0))) μ) : MW kX6_in d [.long k.toInt64, .long 0, .long 7] μ Q :=
  in_0 (by unfold oob at h; rw [Int32.toInt_toInt64, z64, k7_L]; omega) hQ
theorem pr_about (k w : Int32) : PR kX5_about kX6_about [.int k, .int w] := by
  intro N μ d c hd hc hN hrel
  have hth := hrel.th
  have e6_ : (nI 6).toInt = 6 := by decide
  refine MW_of (by decide) [some (.ref 0), some (.int k), some (.int w)] rfl (Nat.le_of_ble_eq_true rfl) ?_
  refine wa_iload_n dX5_about_0 rfl ?_
  refine wa_callS1 (k' := kX5_isSheet) (d' := 0) dX5_about_1 lmX5_44 ksX5_isSheet (by decide) (by omega) (Nat.le_of_ble_eq_true rfl) ?_
  refine wp_X5_isSheet (fun j_ hj_ hk_ => ?_) (fun hoob => ?_)
  · skip
    refine wa_if_eqF 17 dX5_about_4 (by decide) (by decide) ?_
    refine wa_iload_n dX5_about_7 rfl ?_
    refine wa_if_lt 17 dX5_about_8 (by decide) (fun c8_2 => ?_) (fun c8_2 => ?_)
    · try simp (disch := omega) only [nI_toInt, Int32.toInt_toInt64] at c8_2
      refine wa_bipush (-2) dX5_about_17 (by decide) ?_
      refine wa_iret dX5_about_19 rfl ?_
      try unfold oob at hoob
      try rw [hk_]
      try (have ej_ : (nI j_).toInt = j_ := nI_toInt (by omega))
      refine MW_of (by decide) [some (.ref 73), some (.int _), some (.int w)] rfl (Nat.le_of_ble_eq_true rfl) ?_
      refine wa_iload_n dX6_about_0 rfl ?_
      refine wa_i2l dX6_about_1 ?_
      refine wa_lconst (0) dX6_about_2 (by decide) ?_
      refine wa_ldc2 (7) dX6_about_3 lcX6_58 ?_
      refine wa_callS3 (k' := kX6_in) (d' := 0) dX6_about_6 lmX6_60 ksX6_in (by decide) (by omega) (Nat.le_of_ble_eq_true rfl) ?_
      refine wp_X6_in (fun hi_ => ?_) (fun hi_ => ?_)
      · skip
        rw [Int32.toInt_toInt64, z64, k7_L] at hi_
        try (exfalso; omega)
        all_goals
          skip
          refine wa_if_eqF 24 dX6_about_9 (by decide) (by decide) ?_
          refine wa_iload_n dX6_about_12 rfl ?_
          refine wa_i2l dX6_about_13 ?_
          refine wa_lconst (0) dX6_about_14 (by decide) ?_
          refine wa_ldc2 (5) dX6_about_15 lcX6_90 ?_
          refine wa_callS3 (k' := kX6_in) (d' := 0) dX6_about_18 lmX6_60 ksX6_in (by decide) (by omega) (Nat.le_of_ble_eq_true rfl) ?_
          refine wp_X6_in (fun hy_ => ?_) (fun hy_ => ?_)
          · skip
            rw [Int32.toInt_toInt64, z64, ltI5] at hy_
            try (exfalso; omega)
            all_goals
              skip
              refine wa_if_neT 27 dX6_about_21 (by decide) (by decide) ?_
              refine wa_aload_n dX6_about_27 rfl ?_
              refine wa_getR dX6_about_28 fgX6_7 (by first | assumption | rfl) (by rfl) ?_
              refine wa_iload_n dX6_about_31 rfl ?_
              refine wa_zald _ dX6_about_32 (by first | assumption | rfl) (by exact rfl) (by omega) ?_
              exfalso; omega
              refine wa_iret dX6_about_38 rfl ?_
              skip
          · skip
            rw [Int32.toInt_toInt64, z64, ltI5] at hy_
            try (exfalso; omega)
            all_goals
              skip
              refine wa_if_neF 27 dX6_about_21 (by decide) (by decide) ?_
              refine wa_bipush (-2) dX6_about_24 (by decide) ?_
              refine wa_iret dX6_about_26 rfl ?_
              exact ⟨rfl, hrel.up⟩
      · skip
        rw [Int32.toInt_toInt64, z64, k7_L] at hi_
        try (exfalso; omega)
        all_goals
          skip
          refine wa_if_eqT 24 dX6_about_9 (by decide) (by decide) ?_
          refine wa_bipush (-2) dX6_about_24 (by decide) ?_
          refine wa_iret dX6_about_26 rfl ?_
          exact ⟨rfl, hrel.up⟩
    · try simp (disch := omega) only [nI_toInt, Int32.toInt_toInt64] at c8_2
      refine wa_iload_n dX5_about_11 rfl ?_
      refine wa_bipush (nI 6) dX5_about_12 (by decide) ?_
      refine wa_ic_lt 20 dX5_about_14 (by decide) (fun c14_3 => ?_) (fun c14_3 => ?_)
      · try simp (disch := omega) only [nI_toInt, Int32.toInt_toInt64] at c14_3
        refine wa_aload_n dX5_about_20 rfl ?_
        refine wa_getR dX5_about_21 fgX5_11 (by first | assumption | rfl) (by rfl) ?_
        refine wa_iload_n dX5_about_24 rfl ?_
        refine wa_aalS _ dX5_about_25 (by first | assumption | rfl) (by exact hk_) (by omega) ?_
        rw [show arf 1 j_ = 7 + 4 * j_ from rfl]; have hS_ := isS_k (show j_ < 9 by omega); have hsh_ := (isS_sh hS_).1; obtain ⟨n_, s1_, s2_, s3_, s4_, s5_, s6_, s7_, s8_, s9_, s10_⟩ := hrel.1 j_ (by omega); have s5_ := s5_ (by omega)
        refine wa_callV0 (k' := kX3_isThere) (d' := 0) dX5_about_26 lmX5_87 kvX3_isThere (by first | assumption | rfl) (by rfl) (by decide) (by omega) (Nat.le_of_ble_eq_true rfl) ?_
        refine wp_X3_isThere hS_ s1_ (fun h_ => ?_) (fun h_ => ?_)
        · skip
          refine wa_if_neT 35 dX5_about_29 (by decide) (by decide) ?_
          refine wa_aload_n dX5_about_35 rfl ?_
          refine wa_getR dX5_about_36 fgX5_11 (by first | assumption | rfl) (by rfl) ?_
          refine wa_iload_n dX5_about_39 rfl ?_
          refine wa_aalS _ dX5_about_40 (by first | assumption | rfl) (by exact hk_) (by omega) ?_
          rw [show arf 1 j_ = 7 + 4 * j_ from rfl]; obtain ⟨w_, hw_, hww_⟩ := nI_ex (x := w) (n := 6) (by omega) (by omega) (by omega); rw [hww_]
          refine wa_iload_n dX5_about_41 rfl ?_
          refine wa_callV1 (k' := kX3_fact) (d' := 2) dX5_about_42 lmX5_108 kvX3_fact (by first | assumption | rfl) (by rfl) (by decide) (by omega) (Nat.le_of_ble_eq_true rfl) ?_
          refine wp_X3_fact (n := n_) hS_ (by omega) s3_ s4_ hw_ ?_
          refine wa_iret dX5_about_45 rfl ?_
          rw [hk_]
          exact wp_X6_about (n := n_) (by omega) hj_ (by rw [s5_, h_]; decide) s7_ s4_ hw_ ⟨by rw [fctN_c (f := mF μ j_) (g := μ.1 (7 + 4 * j_ + 2)) _ _ s9_, s6_], hrel.up⟩
        · skip
          refine wa_if_neF 35 dX5_about_29 (by decide) (by decide) ?_
          refine wa_bipush (-10) dX5_about_32 (by decide) ?_
          refine wa_iret dX5_about_34 rfl ?_
          rw [hk_]
          refine MW_of (by decide) [some (.ref 73), some (.int (nI j_)), some (.int w)] rfl (Nat.le_of_ble_eq_true rfl) ?_
          refine wa_iload_n dX6_about_0 rfl ?_
          refine wa_i2l dX6_about_1 ?_
          refine wa_lconst (0) dX6_about_2 (by decide) ?_
          refine wa_ldc2 (7) dX6_about_3 lcX6_58 ?_
          refine wa_callS3 (k' := kX6_in) (d' := 0) dX6_about_6 lmX6_60 ksX6_in (by decide) (by omega) (Nat.le_of_ble_eq_true rfl) ?_
          refine in8_1 hj_ ?_
          refine wa_if_eqF 24 dX6_about_9 (by decide) (by decide) ?_
          refine wa_iload_n dX6_about_12 rfl ?_
          refine wa_i2l dX6_about_13 ?_
          refine wa_lconst (0) dX6_about_14 (by decide) ?_
          refine wa_ldc2 (5) dX6_about_15 lcX6_90 ?_
          refine wa_callS3 (k' := kX6_in) (d' := 0) dX6_about_18 lmX6_60 ksX6_in (by decide) (by omega) (Nat.le_of_ble_eq_true rfl) ?_
          refine in_1 (by rw [Int32.toInt_toInt64, z64, ltI5]; omega) ?_
          refine wa_if_neT 27 dX6_about_21 (by decide) (by decide) ?_
          refine wa_aload_n dX6_about_27 rfl ?_
          refine wa_getR dX6_about_28 fgX6_7 (by first | assumption | rfl) (by rfl) ?_
          refine wa_iload_n dX6_about_31 rfl ?_
          refine wa_zald _ dX6_about_32 (by first | assumption | rfl) (by first | with_reducible rfl | with_reducible assumption | with_reducible exact ix_ma _ _ _ | with_reducible exact ix_maa _ _ _ _ | with_reducible exact ix_a _ _ | with_reducible exact ix_mama _ _ _ _ _) (by omega) ?_
          refine wa_if_neF 39 dX6_about_33 (by decide) (by rw [s5_, h_]; exact fun q => q rfl) ?_
          refine wa_bipush (-10) dX6_about_36 (by decide) ?_
          refine wa_iret dX6_about_38 rfl ?_
          exact ⟨rfl, hrel.up⟩
      · try simp (disch := omega) only [nI_toInt, Int32.toInt_toInt64] at c14_3
        refine wa_bipush (-2) dX5_about_17 (by decide) ?_
        refine wa_iret dX5_about_19 rfl ?_
        try unfold oob at hoob
        try rw [hk_]
        try (have ej_ : (nI j_).toInt = j_ := nI_toInt (by omega))
        refine MW_of (by decide) [some (.ref 73), some (.int _), some (.int w)] rfl (Nat.le_of_ble_eq_true rfl) ?_
        refine wa_iload_n dX6_about_0 rfl ?_
        refine wa_i2l dX6_about_1 ?_
        refine wa_lconst (0) dX6_about_2 (by decide) ?_
        refine wa_ldc2 (7) dX6_about_3 lcX6_58 ?_
        refine wa_callS3 (k' := kX6_in) (d' := 0) dX6_about_6 lmX6_60 ksX6_in (by decide) (by omega) (Nat.le_of_ble_eq_true rfl) ?_
        refine wp_X6_in (fun hi_ => ?_) (fun hi_ => ?_)
        · skip
          rw [Int32.toInt_toInt64, z64, k7_L] at hi_
          try (exfalso; omega)
          all_goals
            skip
            refine wa_if_eqF 24 dX6_about_9 (by decide) (by decide) ?_
            refine wa_iload_n dX6_about_12 rfl ?_
            refine wa_i2l dX6_about_13 ?_
            refine wa_lconst (0) dX6_about_14 (by decide) ?_
            refine wa_ldc2 (5) dX6_about_15 lcX6_90 ?_
            refine wa_callS3 (k' := kX6_in) (d' := 0) dX6_about_18 lmX6_60 ksX6_in (by decide) (by omega) (Nat.le_of_ble_eq_true rfl) ?_
            refine wp_X6_in (fun hy_ => ?_) (fun hy_ => ?_)
            · skip
              rw [Int32.toInt_toInt64, z64, ltI5] at hy_
              try (exfalso; omega)
              all_goals
                skip
                refine wa_if_neT 27 dX6_about_21 (by decide) (by decide) ?_
                refine wa_aload_n dX6_about_27 rfl ?_
                refine wa_getR dX6_about_28 fgX6_7 (by first | assumption | rfl) (by rfl) ?_
                refine wa_iload_n dX6_about_31 rfl ?_
                refine wa_zald _ dX6_about_32 (by first | assumption | rfl) (by exact rfl) (by omega) ?_
                exfalso; omega
                refine wa_iret dX6_about_38 rfl ?_
                skip
            · skip
              rw [Int32.toInt_toInt64, z64, ltI5] at hy_
              try (exfalso; omega)
              all_goals
                skip
                refine wa_if_neF 27 dX6_about_21 (by decide) (by decide) ?_
                refine wa_bipush (-2) dX6_about_24 (by decide) ?_
                refine wa_iret dX6_about_26 rfl ?_
                exact ⟨rfl, hrel.up⟩
        · skip
          rw [Int32.toInt_toInt64, z64, k7_L] at hi_
          try (exfalso; omega)
          all_goals
            skip
            refine wa_if_eqT 24 dX6_about_9 (by decide) (by decide) ?_
            refine wa_bipush (-2) dX6_about_24 (by decide) ?_
            refine wa_iret dX6_about_26 rfl ?_
            exact ⟨rfl, hrel.up⟩
  · skip
    refine wa_if_eqT 17 dX5_about_4 (by decide) (by decide) ?_
    refine wa_bipush (-2) dX5_about_17 (by decide) ?_
    refine wa_iret dX5_about_19 rfl ?_
    try unfold oob at hoob
    try rw [hk_]
    try (have ej_ : (nI j_).toInt = j_ := nI_toInt (by omega))
    refine MW_of (by decide) [some (.ref 73), some (.int _), some (.int w)] rfl (Nat.le_of_ble_eq_true rfl) ?_
    refine wa_iload_n dX6_about_0 rfl ?_
    refine wa_i2l dX6_about_1 ?_
    refine wa_lconst (0) dX6_about_2 (by decide) ?_
    refine wa_ldc2 (7) dX6_about_3 lcX6_58 ?_
    refine wa_callS3 (k' := kX6_in) (d' := 0) dX6_about_6 lmX6_60 ksX6_in (by decide) (by omega) (Nat.le_of_ble_eq_true rfl) ?_
    refine wp_X6_in (fun hi_ => ?_) (fun hi_ => ?_)
    · skip
      rw [Int32.toInt_toInt64, z64, k7_L] at hi_
      try (exfalso; omega)
      all_goals
        skip
        refine wa_if_eqF 24 dX6_about_9 (by decide) (by decide) ?_
        refine wa_iload_n dX6_about_12 rfl ?_
        refine wa_i2l dX6_about_13 ?_
        refine wa_lconst (0) dX6_about_14 (by decide) ?_
        refine wa_ldc2 (5) dX6_about_15 lcX6_90 ?_
        refine wa_callS3 (k' := kX6_in) (d' := 0) dX6_about_18 lmX6_60 ksX6_in (by decide) (by omega) (Nat.le_of_ble_eq_true rfl) ?_
        refine wp_X6_in (fun hy_ => ?_) (fun hy_ => ?_)
        · skip
          rw [Int32.toInt_toInt64, z64, ltI5] at hy_
          try (exfalso; omega)
          all_goals
            skip
            refine wa_if_neT 27 dX6_about_21 (by decide) (by decide) ?_
            refine wa_aload_n dX6_about_27 rfl ?_
            refine wa_getR dX6_about_28 fgX6_7 (by first | assumption | rfl) (by rfl) ?_
            refine wa_iload_n dX6_about_31 rfl ?_
            refine wa_zald _ dX6_about_32 (by first | assumption | rfl) (by exact rfl) (by omega) ?_
            exfalso; omega
            refine wa_iret dX6_about_38 rfl ?_
            skip
        · skip
          rw [Int32.toInt_toInt64, z64, ltI5] at hy_
          try (exfalso; omega)
          all_goals
            skip
            refine wa_if_neF 27 dX6_about_21 (by decide) (by decide) ?_
            refine wa_bipush (-2) dX6_about_24 (by decide) ?_
            refine wa_iret dX6_about_26 rfl ?_
            exact ⟨rfl, hrel.up⟩
    · skip
      rw [Int32.toInt_toInt64, z64, k7_L] at hi_
      try (exfalso; omega)
      all_goals
        skip
        refine wa_if_eqT 24 dX6_about_9 (by decide) (by decide) ?_
        refine wa_bipush (-2) dX6_about_24 (by decide) ?_
        refine wa_iret dX6_about_26 rfl ?_
        exact ⟨rfl, hrel.up⟩
theorem in_n1 {d a n : Nat} {x : Int32} {μ : Mem} {Q : QM} (hx : x = nI n) (hn : n ≤ 64) (ha : a < n) (hQ : Q (some (.int (nI 1))) μ) : MW kX6_in d [.long (nI a).toInt64, .long 0, .long (x - nI 1).toInt64] μ Q :=
  in_1 (by rw [hx, pm1p hn, Int32.toInt_toInt64, z64, nI_toInt (by omega)]; omega) hQ
theorem in_n0 {d n : Nat} {i x : Int32} {μ : Mem} {Q : QM} (hx : x = nI n) (hn : n ≤ 64) (ha : i.toInt < 0 ∨ (n : Int) ≤ i.toInt) (hQ : Q (some (.int (nI 0))) μ) : MW kX6_in d [.long i.toInt64, .long 0, .long (x - nI 1).toInt64] μ Q :=
  in_0 (by rw [hx, pm1p hn, Int32.toInt_toInt64, z64]; omega) hQ
theorem pr_number (k i : Int32) : PR kX5_number kX6_number [.int k, .int i] := by
  intro N μ d c hd hc hN hrel
  refine MW_of (by decide) [some (.ref 0), some (.int k), some (.int i)] rfl (Nat.le_of_ble_eq_true rfl) ?_
  refine wa_iload_n dX5_number_0 rfl ?_
  refine wa_callS1 (k' := kX5_isRow) (d' := 0) dX5_number_1 lmX5_111 ksX5_isRow (by decide) (by omega) (Nat.le_of_ble_eq_true rfl) ?_
  refine wp_X5_isRow (fun r_ hr_ hk_ => ?_) (fun hoob => ?_)
  · skip
    obtain ⟨n_, s1_, s2_, s3_, s4_, s5_⟩ := hrel.2.1 r_ (by omega)
    refine wa_if_neT 11 dX5_number_4 (by decide) (by decide) ?_
    refine wa_iload_n dX5_number_11 rfl ?_
    refine wa_if_lt 28 dX5_number_12 (by decide) (fun c12_2 => ?_) (fun c12_2 => ?_)
    · try simp (disch := omega) only [nI_toInt, Int32.toInt_toInt64] at c12_2
      refine wa_ldc2 (-5000000000000000013) dX5_number_28 lcX5_125 ?_
      refine wa_lret dX5_number_31 rfl ?_
      rw [hk_]
      refine MW_of (by decide) [some (.ref 73), some (.int (nI r_)), some (.int i)] rfl (Nat.le_of_ble_eq_true rfl) ?_
      refine wa_iload_n dX6_number_0 rfl ?_
      refine wa_callS1 (k' := kX6_isRow) (d' := 1) dX6_number_1 lmX6_100 ksX6_isRow (by decide) (by omega) (Nat.le_of_ble_eq_true rfl) ?_
      refine isRo_1 (by omega) hr_ ?_
      refine wa_if_neT 11 dX6_number_4 (by decide) (by decide) ?_
      refine wa_iload_n dX6_number_11 rfl ?_
      refine wa_i2l dX6_number_12 ?_
      refine wa_lconst (0) dX6_number_13 (by decide) ?_
      refine wa_aload_n dX6_number_14 rfl ?_
      refine wa_getR dX6_number_15 fgX6_26 (by first | assumption | rfl) (by rfl) ?_
      refine wa_iload_n dX6_number_18 rfl ?_
      refine wa_iald _ dX6_number_19 (by first | assumption | rfl) (by first | with_reducible rfl | with_reducible assumption | with_reducible exact ix_ma _ _ _ | with_reducible exact ix_maa _ _ _ _ | with_reducible exact ix_a _ _ | with_reducible exact ix_mama _ _ _ _ _) (by omega) ?_
      refine wa_iconst (nI 1) dX6_number_20 (by decide) ?_
      refine wa_isub dX6_number_21 ?_
      refine wa_i2l dX6_number_22 ?_
      refine wa_callS3 (k' := kX6_in) (d' := 0) dX6_number_23 lmX6_60 ksX6_in (by decide) (by omega) (Nat.le_of_ble_eq_true rfl) ?_
      refine in_n0 s3_ s2_ (by omega) ?_
      refine wa_if_eqT 43 dX6_number_26 (by decide) (by decide) ?_
      refine wa_ldc2 (-5000000000000000013) dX6_number_43 lcX6_84 ?_
      refine wa_lret dX6_number_46 rfl ?_
      exact ⟨rfl, hrel.up⟩
    · try simp (disch := omega) only [nI_toInt, Int32.toInt_toInt64] at c12_2
      refine wa_iload_n dX5_number_15 rfl ?_
      refine wa_aload_n dX5_number_16 rfl ?_
      refine wa_getR dX5_number_17 fgX5_18 (by first | assumption | rfl) (by rfl) ?_
      refine wa_iload_n dX5_number_20 rfl ?_
      refine wa_aalR _ dX5_number_21 (by first | assumption | rfl) (by exact hk_) (by omega) ?_
      rw [show arf 2 r_ = 43 + 5 * r_ from rfl]; have hR_ := isR_k (show r_ < 6 by omega); have hsh_ := (isR_sh hR_).1
      refine wa_callV0 (k' := kX2_size) (d' := 0) dX5_number_22 lmX5_120 kvX2_size (by first | assumption | rfl) (by rfl) (by decide) (by omega) (Nat.le_of_ble_eq_true rfl) ?_
      refine wp_X2_size hR_ ?_
      rw [s1_]
      refine wa_ic_lt 32 dX5_number_25 (by decide) (fun c25_4 => ?_) (fun c25_4 => ?_)
      · try simp (disch := omega) only [nI_toInt, Int32.toInt_toInt64] at c25_4
        refine wa_aload_n dX5_number_32 rfl ?_
        refine wa_getR dX5_number_33 fgX5_18 (by first | assumption | rfl) (by rfl) ?_
        refine wa_iload_n dX5_number_36 rfl ?_
        refine wa_aalR _ dX5_number_37 (by first | assumption | rfl) (by exact hk_) (by omega) ?_
        rw [show arf 2 r_ = 43 + 5 * r_ from rfl]; obtain ⟨a_, ha_, hia_⟩ := nI_ex (x := i) (n := n_) (by omega) (by omega) (by omega); rw [hia_]
        refine wa_iload_n dX5_number_38 rfl ?_
        refine wa_callV1 (k' := kX2_valueAt) (d' := 0) dX5_number_39 lmX5_127 kvX2_valueAt (by first | assumption | rfl) (by rfl) (by decide) (by omega) (Nat.le_of_ble_eq_true rfl) ?_
        refine wp_X2_valueAt hR_ rfl (by omega) ?_
        refine wa_lret dX5_number_42 rfl ?_
        rw [hk_]
        refine MW_of (by decide) [some (.ref 73), some (.int (nI r_)), some (.int (nI a_))] rfl (Nat.le_of_ble_eq_true rfl) ?_
        refine wa_iload_n dX6_number_0 rfl ?_
        refine wa_callS1 (k' := kX6_isRow) (d' := 1) dX6_number_1 lmX6_100 ksX6_isRow (by decide) (by omega) (Nat.le_of_ble_eq_true rfl) ?_
        refine isRo_1 (by omega) hr_ ?_
        refine wa_if_neT 11 dX6_number_4 (by decide) (by decide) ?_
        refine wa_iload_n dX6_number_11 rfl ?_
        refine wa_i2l dX6_number_12 ?_
        refine wa_lconst (0) dX6_number_13 (by decide) ?_
        refine wa_aload_n dX6_number_14 rfl ?_
        refine wa_getR dX6_number_15 fgX6_26 (by first | assumption | rfl) (by rfl) ?_
        refine wa_iload_n dX6_number_18 rfl ?_
        refine wa_iald _ dX6_number_19 (by first | assumption | rfl) (by first | with_reducible rfl | with_reducible assumption | with_reducible exact ix_ma _ _ _ | with_reducible exact ix_maa _ _ _ _ | with_reducible exact ix_a _ _ | with_reducible exact ix_mama _ _ _ _ _) (by omega) ?_
        refine wa_iconst (nI 1) dX6_number_20 (by decide) ?_
        refine wa_isub dX6_number_21 ?_
        refine wa_i2l dX6_number_22 ?_
        refine wa_callS3 (k' := kX6_in) (d' := 0) dX6_number_23 lmX6_60 ksX6_in (by decide) (by omega) (Nat.le_of_ble_eq_true rfl) ?_
        refine in_n1 s3_ s2_ ha_ ?_
        refine wa_if_eqF 43 dX6_number_26 (by decide) (by decide) ?_
        refine wa_aload_n dX6_number_29 rfl ?_
        refine wa_getR dX6_number_30 fgX6_29 (by first | assumption | rfl) (by rfl) ?_
        refine wa_bipush (nI 64) dX6_number_33 (by decide) ?_
        refine wa_iload_n dX6_number_35 rfl ?_
        refine wa_imul dX6_number_36 ?_
        refine wa_iload_n dX6_number_37 rfl ?_
        refine wa_iadd dX6_number_38 ?_
        refine wa_lald _ dX6_number_39 (by first | assumption | rfl) (by first | with_reducible rfl | with_reducible assumption | with_reducible exact ix_ma _ _ _ | with_reducible exact ix_maa _ _ _ _ | with_reducible exact ix_a _ _ | with_reducible exact ix_mama _ _ _ _ _) (by omega) ?_
        refine wa_goto 46 dX6_number_40 (by decide) ?_
        refine wa_lret dX6_number_46 rfl ?_
        exact ⟨by rw [s4_ a_ ha_], hrel.up⟩
      · try simp (disch := omega) only [nI_toInt, Int32.toInt_toInt64] at c25_4
        refine wa_ldc2 (-5000000000000000013) dX5_number_28 lcX5_125 ?_
        refine wa_lret dX5_number_31 rfl ?_
        rw [hk_]
        refine MW_of (by decide) [some (.ref 73), some (.int (nI r_)), some (.int i)] rfl (Nat.le_of_ble_eq_true rfl) ?_
        refine wa_iload_n dX6_number_0 rfl ?_
        refine wa_callS1 (k' := kX6_isRow) (d' := 1) dX6_number_1 lmX6_100 ksX6_isRow (by decide) (by omega) (Nat.le_of_ble_eq_true rfl) ?_
        refine isRo_1 (by omega) hr_ ?_
        refine wa_if_neT 11 dX6_number_4 (by decide) (by decide) ?_
        refine wa_iload_n dX6_number_11 rfl ?_
        refine wa_i2l dX6_number_12 ?_
        refine wa_lconst (0) dX6_number_13 (by decide) ?_
        refine wa_aload_n dX6_number_14 rfl ?_
        refine wa_getR dX6_number_15 fgX6_26 (by first | assumption | rfl) (by rfl) ?_
        refine wa_iload_n dX6_number_18 rfl ?_
        refine wa_iald _ dX6_number_19 (by first | assumption | rfl) (by first | with_reducible rfl | with_reducible assumption | with_reducible exact ix_ma _ _ _ | with_reducible exact ix_maa _ _ _ _ | with_reducible exact ix_a _ _ | with_reducible exact ix_mama _ _ _ _ _) (by omega) ?_
        refine wa_iconst (nI 1) dX6_number_20 (by decide) ?_
        refine wa_isub dX6_number_21 ?_
        refine wa_i2l dX6_number_22 ?_
        refine wa_callS3 (k' := kX6_in) (d' := 0) dX6_number_23 lmX6_60 ksX6_in (by decide) (by omega) (Nat.le_of_ble_eq_true rfl) ?_
        refine in_n0 s3_ s2_ (by omega) ?_
        refine wa_if_eqT 43 dX6_number_26 (by decide) (by decide) ?_
        refine wa_ldc2 (-5000000000000000013) dX6_number_43 lcX6_84 ?_
        refine wa_lret dX6_number_46 rfl ?_
        exact ⟨rfl, hrel.up⟩
  · skip
    refine wa_if_neF 11 dX5_number_4 (by decide) (by decide) ?_
    refine wa_ldc2 (-5000000000000000002) dX5_number_7 lcX5_123 ?_
    refine wa_lret dX5_number_10 rfl ?_
    skip
    refine MW_of (by decide) [some (.ref 73), some (.int k), some (.int i)] rfl (Nat.le_of_ble_eq_true rfl) ?_
    refine wa_iload_n dX6_number_0 rfl ?_
    refine wa_callS1 (k' := kX6_isRow) (d' := 1) dX6_number_1 lmX6_100 ksX6_isRow (by decide) (by omega) (Nat.le_of_ble_eq_true rfl) ?_
    refine isRo_0 (by omega) hoob ?_
    refine wa_if_neF 11 dX6_number_4 (by decide) (by decide) ?_
    refine wa_ldc2 (-5000000000000000002) dX6_number_7 lcX6_104 ?_
    refine wa_lret dX6_number_10 rfl ?_
    exact ⟨rfl, hrel.up⟩
theorem pr_waves (k : Int32) : PR kX5_waves kX6_waves [.int k] := by
  intro N μ d c hd hc hN hrel
  refine MW_of (by decide) [some (.ref 0), some (.int k)] rfl (Nat.le_of_ble_eq_true rfl) ?_
  refine wa_iload_n dX5_waves_0 rfl ?_
  refine wa_callS1 (k' := kX5_isRow) (d' := 0) dX5_waves_1 lmX5_111 ksX5_isRow (by decide) (by omega) (Nat.le_of_ble_eq_true rfl) ?_
  refine wp_X5_isRow (fun r_ hr_ hk_ => ?_) (fun hoob => ?_)
  · skip
    obtain ⟨n_, s1_, s2_, s3_, s4_, s5_⟩ := hrel.2.1 r_ (by omega)
    refine wa_if_neT 10 dX5_waves_4 (by decide) (by decide) ?_
    refine wa_aload_n dX5_waves_10 rfl ?_
    refine wa_getR dX5_waves_11 fgX5_18 (by first | assumption | rfl) (by rfl) ?_
    refine wa_iload_n dX5_waves_14 rfl ?_
    refine wa_aalR _ dX5_waves_15 (by first | assumption | rfl) (by exact hk_) (by omega) ?_
    rw [show arf 2 r_ = 43 + 5 * r_ from rfl]; have hR_ := isR_k (show r_ < 6 by omega); have hsh_ := (isR_sh hR_).1
    refine wa_callV0 (k' := kX2_findWaves) (d' := 1) dX5_waves_16 lmX5_172 kvX2_findWaves (by first | assumption | rfl) (by rfl) (by decide) (by omega) (Nat.le_of_ble_eq_true rfl) ?_
    refine wp_X2_findWaves hR_ (by omega) s1_ s2_ ?_
    refine wa_iret dX5_waves_19 rfl ?_
    rw [hk_]
    refine MW_of (by decide) [some (.ref 73), some (.int (nI r_))] rfl (Nat.le_of_ble_eq_true rfl) ?_
    refine wa_iload_n dX6_waves_0 rfl ?_
    refine wa_callS1 (k' := kX6_isRow) (d' := 1) dX6_waves_1 lmX6_100 ksX6_isRow (by decide) (by omega) (Nat.le_of_ble_eq_true rfl) ?_
    refine isRo_1 (by omega) hr_ ?_
    refine wa_if_eqF 15 dX6_waves_4 (by decide) (by decide) ?_
    refine wa_aload_n dX6_waves_7 rfl ?_
    refine wa_iload_n dX6_waves_8 rfl ?_
    refine wa_callV1 (k' := kX6_waveMany) (d' := 1) dX6_waves_9 lmX6_154 kvX6_waveMany (by first | assumption | rfl) (by rfl) (by decide) (by omega) (Nat.le_of_ble_eq_true rfl) ?_
    refine wp_X6_waveMany (n := n_) (by omega) hr_ (by simp (disch := omega) only [sI_off, bI_off, sL_off, bL_off, r1l, r2l, rb1l, rb2l, r1m, r2m, rb1e, rb2e, r1e, r2e]; exact s3_) s2_ ?_
    refine wa_goto 17 dX6_waves_12 (by decide) ?_
    refine wa_iret dX6_waves_17 rfl ?_
    refine ⟨?_, ?_⟩
    · rw [wvN, wvN, upN_c (f := mN (bI μ (43 + 5 * r_ + 3) (upsF (μ.2 (43 + 5 * r_ + 1)) (μ.1 (43 + 5 * r_ + 3)) n_)) r_) (g := μ.2 (43 + 5 * r_ + 1)) s4_]
    · unfold mUps
      refine Rel_0 hrel ?fs ?fr ?fp ?fw ?fm
      case fs =>
        intro j_ hj_
        refine ⟨?_, ?_, ?_, ?_, ?_, ?_, fun i_ hi_ => ?_, fun i_ hi_ => ?_⟩
        all_goals
          simp (disch := omega) only [sI_off, bI_off, sL_off, bL_off, r1l, r2l, rb1l, rb2l, r1m, r2m, rb1e, rb2e,r1e]
      case fr =>
        intro r_ hr_
        refine ⟨?_, ?_, ?_, fun i_ hi_ => ?_⟩
        all_goals
          simp (disch := omega) only [sI_off, bI_off, sL_off, bL_off, r1l, r2l, rb1l, rb2l, r1m, r2m, rb1e, rb2e,r1e]
      case fp =>
        refine ⟨?_, ?_, ?_, ?_, ?_⟩
        all_goals
          simp (disch := omega) only [sI_off, bI_off, sL_off, bL_off, r1l, r2l, rb1l, rb2l, r1m, r2m, rb1e, rb2e,r1e]
      case fw =>
        refine ⟨?_, fun q_ ha_ hb_ => ?_⟩
        all_goals
          simp (disch := omega) only [sI_off, bI_off, sL_off, bL_off, r1l, r2l, rb1l, rb2l, r1m, r2m, rb1e, rb2e,r1e]
      case fm =>
        refine ⟨?_, ?_, fun q_ ha_ hb_ => ?_⟩
        all_goals
          simp (disch := omega) only [sI_off, bI_off, sL_off, bL_off, r1l, r2l, rb1l, rb2l, r1m, r2m, rb1e, rb2e,r1e]
  · skip
    refine wa_if_neF 10 dX5_waves_4 (by decide) (by decide) ?_
    refine wa_bipush (-2) dX5_waves_7 (by decide) ?_
    refine wa_iret dX5_waves_9 rfl ?_
    skip
    refine MW_of (by decide) [some (.ref 73), some (.int k)] rfl (Nat.le_of_ble_eq_true rfl) ?_
    refine wa_iload_n dX6_waves_0 rfl ?_
    refine wa_callS1 (k' := kX6_isRow) (d' := 1) dX6_waves_1 lmX6_100 ksX6_isRow (by decide) (by omega) (Nat.le_of_ble_eq_true rfl) ?_
    refine isRo_0 (by omega) hoob ?_
    refine wa_if_eqT 15 dX6_waves_4 (by decide) (by decide) ?_
    refine wa_bipush (-2) dX6_waves_15 (by decide) ?_
    refine wa_iret dX6_waves_17 rfl ?_
    exact ⟨rfl, hrel.up⟩
