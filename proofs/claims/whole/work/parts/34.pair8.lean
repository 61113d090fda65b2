/-! PAIRS: raise, sheet -/
theorem cntN_0 {f : Nat → Int32} : ∀ {n : Nat}, cntN f (nI 0) n = 0 → ∀ i, i < n → ¬ f i = nI 0
  | 0, _, i, hi => absurd hi (by omega)
  | n + 1, h, i, hi => by
    rw [cntN] at h
    by_cases hz : (f n).toInt = (nI 0).toInt
    · rw [if_pos hz] at h
      omega
    · rw [if_neg hz] at h
      by_cases hin : i = n
      · rw [hin]
        exact fun q => hz (by rw [q])
      · exact cntN_0 (by omega) i (by omega)
theorem wa_raise {d j r n : Nat} {μ : Mem} {Q : QM} (hj : j < 8) (hr : r < 6) (hn : μ.1 76 j = nI n) (hn64 : n ≤ 64) (hQ : Q (some (.int (nI n))) (bL (sI μ 79 r (nI n)) 80 (rwF (fun i => (μ.1 78 (64 * j + i)).toInt64) (μ.2 80) r n))) : WA kX6_raise d Q 46 [some (.ref 73), some (.int (nI j)), some (.int (nI r)), none] [] μ := by
  have loop : ∀ m i, i + m = n → WA kX6_raise d Q 60 [some (.ref 73), some (.int (nI j)), some (.int (nI r)), some (.int (nI i))] [] (bL (sI μ 79 r (nI n)) 80 (rwF (fun i => (μ.1 78 (64 * j + i)).toInt64) (μ.2 80) r i)) := by
    intro m
    induction m with
    | zero =>
      intro i hi
      obtain rfl : i = n := by omega
      refine wa_iload_n dX6_raise_60 rfl ?_
      refine wa_aload_n dX6_raise_61 rfl ?_
      refine wa_getR dX6_raise_62 fgX6_17 (by first | assumption | rfl) (by rfl) ?_
      refine wa_iload_n dX6_raise_65 rfl ?_
      refine wa_iald _ dX6_raise_66 (by first | assumption | rfl) (by first | with_reducible rfl | with_reducible assumption | with_reducible exact ix_ma _ _ _ | with_reducible exact ix_maa _ _ _ _ | with_reducible exact ix_a _ _ | with_reducible exact ix_mama _ _ _ _ _) (by omega) ?_
      refine wa_ic_geT 99 dX6_raise_67 (by decide) (by simp (disch := omega) only [sI_off, bI_off, sL_off, bL_off, r1l, r2l, rb1l, rb2l, r1m, r2m, rb1e, rb2e, r1e, r2e]; rw [hn]; exact le_nI (by omega) (by omega)) ?_
      refine wa_aload_n dX6_raise_99 rfl ?_
      refine wa_getR dX6_raise_100 fgX6_17 (by first | assumption | rfl) (by rfl) ?_
      refine wa_iload_n dX6_raise_103 rfl ?_
      refine wa_iald _ dX6_raise_104 (by first | assumption | rfl) (by first | with_reducible rfl | with_reducible assumption | with_reducible exact ix_ma _ _ _ | with_reducible exact ix_maa _ _ _ _ | with_reducible exact ix_a _ _ | with_reducible exact ix_mama _ _ _ _ _) (by omega) ?_
      refine wa_iret dX6_raise_105 rfl ?_
      simp (disch := omega) only [sI_off, bI_off, sL_off, bL_off, r1l, r2l, rb1l, rb2l, r1m, r2m, rb1e, rb2e, r1e, r2e]
      rw [hn]
      exact hQ
    | succ m ih =>
      intro i hi
      have e_ := ih (i + 1) (by omega)
      have e2 := rwF_s (fun i => (μ.1 78 (64 * j + i)).toInt64) (μ.2 80) r i
      refine wa_iload_n dX6_raise_60 rfl ?_
      refine wa_aload_n dX6_raise_61 rfl ?_
      refine wa_getR dX6_raise_62 fgX6_17 (by first | assumption | rfl) (by rfl) ?_
      refine wa_iload_n dX6_raise_65 rfl ?_
      refine wa_iald _ dX6_raise_66 (by first | assumption | rfl) (by first | with_reducible rfl | with_reducible assumption | with_reducible exact ix_ma _ _ _ | with_reducible exact ix_maa _ _ _ _ | with_reducible exact ix_a _ _ | with_reducible exact ix_mama _ _ _ _ _) (by omega) ?_
      refine wa_ic_geF 99 dX6_raise_67 (by decide) (by simp (disch := omega) only [sI_off, bI_off, sL_off, bL_off, r1l, r2l, rb1l, rb2l, r1m, r2m, rb1e, rb2e, r1e, r2e]; rw [hn]; exact nle_nI (by omega) (by omega)) ?_
      refine wa_aload_n dX6_raise_70 rfl ?_
      refine wa_getR dX6_raise_71 fgX6_29 (by first | assumption | rfl) (by rfl) ?_
      refine wa_bipush (nI 64) dX6_raise_74 (by decide) ?_
      refine wa_iload_n dX6_raise_76 rfl ?_
      refine wa_imul dX6_raise_77 ?_
      refine wa_iload_n dX6_raise_78 rfl ?_
      refine wa_iadd dX6_raise_79 ?_
      refine wa_aload_n dX6_raise_80 rfl ?_
      refine wa_getR dX6_raise_81 fgX6_23 (by first | assumption | rfl) (by rfl) ?_
      refine wa_bipush (nI 64) dX6_raise_84 (by decide) ?_
      refine wa_iload_n dX6_raise_86 rfl ?_
      refine wa_imul dX6_raise_87 ?_
      refine wa_iload_n dX6_raise_88 rfl ?_
      refine wa_iadd dX6_raise_89 ?_
      refine wa_iald _ dX6_raise_90 (by first | assumption | rfl) (by first | with_reducible rfl | with_reducible assumption | with_reducible exact ix_ma _ _ _ | with_reducible exact ix_maa _ _ _ _ | with_reducible exact ix_a _ _ | with_reducible exact ix_mama _ _ _ _ _) (by omega) ?_
      refine wa_i2l dX6_raise_91 ?_
      refine wa_last _ dX6_raise_92 (by first | assumption | rfl) (by first | with_reducible rfl | with_reducible assumption | with_reducible exact ix_ma _ _ _ | with_reducible exact ix_maa _ _ _ _ | with_reducible exact ix_a _ _ | with_reducible exact ix_mama _ _ _ _ _) (by omega) ?_
      refine wa_iinc (nI 1) dX6_raise_93 rfl (by decide) (by decide) ?_
      refine wa_goto 60 dX6_raise_96 (by decide) ?_
      rw [sLb, rb2l, sI_off (by omega), e2]
      simp only [nI_add]
      exact e_
  have e0 := loop n 0 (by omega)
  rw [rwF_0] at e0
  have e1 : bL (sI μ 79 r (nI n)) 80 (μ.2 80) = sI μ 79 r (nI n) := bL_self (sI μ 79 r (nI n)) 80
  rw [e1] at e0
  refine wa_aload_n dX6_raise_46 rfl ?_
  refine wa_getR dX6_raise_47 fgX6_26 (by first | assumption | rfl) (by rfl) ?_
  refine wa_iload_n dX6_raise_50 rfl ?_
  refine wa_aload_n dX6_raise_51 rfl ?_
  refine wa_getR dX6_raise_52 fgX6_17 (by first | assumption | rfl) (by rfl) ?_
  refine wa_iload_n dX6_raise_55 rfl ?_
  refine wa_iald _ dX6_raise_56 (by first | assumption | rfl) (by first | with_reducible rfl | with_reducible assumption | with_reducible exact ix_ma _ _ _ | with_reducible exact ix_maa _ _ _ _ | with_reducible exact ix_a _ _ | with_reducible exact ix_mama _ _ _ _ _) (by omega) ?_
  refine wa_iast _ dX6_raise_57 (by first | assumption | rfl) (by first | with_reducible rfl | with_reducible assumption | with_reducible exact ix_ma _ _ _ | with_reducible exact ix_maa _ _ _ _ | with_reducible exact ix_a _ _ | with_reducible exact ix_mama _ _ _ _ _) (by omega) ?_
  refine wa_iconst (nI 0) dX6_raise_58 (by decide) ?_
  refine wa_istore_n dX6_raise_59 (by decide) ?_
  rw [hn]; exact e0
theorem pr_raise (k w : Int32) : PR kX5_raise kX6_raise [.int k, .int w] := by
  intro N μ d c hd hc hN hrel
  refine MW_of (by decide) [some (.ref 0), some (.int k), some (.int w)] rfl (Nat.le_of_ble_eq_true rfl) ?_
  refine wa_iload_n dX5_raise_0 rfl ?_
  refine wa_callS1 (k' := kX5_isSheet) (d' := 0) dX5_raise_1 lmX5_44 ksX5_isSheet (by decide) (by omega) (Nat.le_of_ble_eq_true rfl) ?_
  refine wp_X5_isSheet (fun j_ hj_ hk_ => ?_) (fun hoob => ?_)
  · skip
    obtain ⟨n_, s1_, s2_, s3_, s4_, s5_, s6_, s7_, s8_, s9_, s10_⟩ := hrel.1 j_ (by omega); have s5_ := s5_ (by omega); have hS_ := isS_k (show j_ < 9 by omega); have hsh_ := (isS_sh hS_).1
    refine wa_if_eqF 14 dX5_raise_4 (by decide) (by decide) ?_
    refine wa_iload_n dX5_raise_7 rfl ?_
    refine wa_callS1 (k' := kX5_isRow) (d' := 0) dX5_raise_8 lmX5_111 ksX5_isRow (by decide) (by omega) (Nat.le_of_ble_eq_true rfl) ?_
    refine wp_X5_isRow (fun r_ hr_ hw_ => ?_) (fun hoob => ?_)
    · skip
      obtain ⟨m_, t1_, t2_, t3_, t4_, t5_⟩ := hrel.2.1 r_ (by omega); have hR_ := isR_k (show r_ < 6 by omega); have hsr_ := (isR_sh hR_).1
      refine wa_if_neT 17 dX5_raise_11 (by decide) (by decide) ?_
      refine wa_aload_n dX5_raise_17 rfl ?_
      refine wa_getR dX5_raise_18 fgX5_11 (by first | assumption | rfl) (by rfl) ?_
      refine wa_iload_n dX5_raise_21 rfl ?_
      refine wa_aalS _ dX5_raise_22 (by first | assumption | rfl) (by exact hk_) (by omega) ?_
      rw [show arf 1 j_ = 7 + 4 * j_ from rfl]
      refine wa_callV0 (k' := kX3_isThere) (d' := 0) dX5_raise_23 lmX5_87 kvX3_isThere (by first | assumption | rfl) (by rfl) (by decide) (by omega) (Nat.le_of_ble_eq_true rfl) ?_
      refine wp_X3_isThere hS_ s1_ (fun h_ => ?_) (fun h_ => ?_)
      · skip
        refine wa_if_neT 32 dX5_raise_26 (by decide) (by decide) ?_
        refine wa_aload_n dX5_raise_32 rfl ?_
        refine wa_getR dX5_raise_33 fgX5_11 (by first | assumption | rfl) (by rfl) ?_
        refine wa_iload_n dX5_raise_36 rfl ?_
        refine wa_aalS _ dX5_raise_37 (by first | assumption | rfl) (by exact hk_) (by omega) ?_
        rw [show arf 1 j_ = 7 + 4 * j_ from rfl]
        refine wa_callV0 (k' := kX3_lostSamples) (d' := 1) dX5_raise_38 lmX5_114 kvX3_lostSamples (by first | assumption | rfl) (by rfl) (by decide) (by omega) (Nat.le_of_ble_eq_true rfl) ?_
        refine wp_X3_lostSamples (n := n_) hS_ (by omega) s3_ s4_ ?_
        have hcl_ := cntN_le (μ.1 (7 + 4 * j_ + 2)) (nI 0) n_
        refine wa_if_le 47 dX5_raise_41 (by decide) (fun c41_5 => ?_) (fun c41_5 => ?_)
        · try simp (disch := omega) only [nI_toInt, Int32.toInt_toInt64] at c41_5
          refine wa_aload_n dX5_raise_47 rfl ?_
          refine wa_getR dX5_raise_48 fgX5_18 (by first | assumption | rfl) (by rfl) ?_
          refine wa_iload_n dX5_raise_51 rfl ?_
          refine wa_aalR _ dX5_raise_52 (by first | assumption | rfl) (by exact hw_) (by omega) ?_
          rw [show arf 2 r_ = 43 + 5 * r_ from rfl]
          refine wa_aload_n dX5_raise_53 rfl ?_
          refine wa_getR dX5_raise_54 fgX5_11 (by first | assumption | rfl) (by rfl) ?_
          refine wa_iload_n dX5_raise_57 rfl ?_
          refine wa_aalS _ dX5_raise_58 (by first | assumption | rfl) (by exact hk_) (by omega) ?_
          rw [show arf 1 j_ = 7 + 4 * j_ from rfl]
          refine wa_callV1 (k' := kX2_take) (d' := 1) dX5_raise_59 lmX5_117 kvX2_take (by first | assumption | rfl) (by rfl) (by decide) (by omega) (Nat.le_of_ble_eq_true rfl) ?_
          refine wp_X2_take (n := n_) hR_ hS_ (by omega) s3_ s4_ ?_
          refine wa_aload_n dX5_raise_62 rfl ?_
          refine wa_getR dX5_raise_63 fgX5_18 (by first | assumption | rfl) (by rfl) ?_
          refine wa_iload_n dX5_raise_66 rfl ?_
          refine wa_aalR _ dX5_raise_67 (by first | assumption | rfl) (by exact hw_) (by omega) ?_
          rw [show arf 2 r_ = 43 + 5 * r_ from rfl]
          refine wa_callV0 (k' := kX2_size) (d' := 0) dX5_raise_68 lmX5_120 kvX2_size (by first | assumption | rfl) (by rfl) (by decide) (by omega) (Nat.le_of_ble_eq_true rfl) ?_
          refine wp_X2_size hR_ ?_
          refine wa_iret dX5_raise_71 rfl ?_
          rw [hk_, hw_]
          have h0_ := cntN_0 (f := μ.1 (7 + 4 * j_ + 2)) (n := n_) (by omega)
          refine MW_of (by decide) [some (.ref 73), some (.int (nI j_)), some (.int (nI r_)), none] rfl (Nat.le_of_ble_eq_true rfl) ?_
          refine wa_iload_n dX6_raise_0 rfl ?_
          refine wa_i2l dX6_raise_1 ?_
          refine wa_lconst (0) dX6_raise_2 (by decide) ?_
          refine wa_ldc2 (7) dX6_raise_3 lcX6_58 ?_
          refine wa_callS3 (k' := kX6_in) (d' := 0) dX6_raise_6 lmX6_60 ksX6_in (by decide) (by omega) (Nat.le_of_ble_eq_true rfl) ?_
          refine in8_1 hj_ ?_
          refine wa_if_eqF 19 dX6_raise_9 (by decide) (by decide) ?_
          refine wa_iload_n dX6_raise_12 rfl ?_
          refine wa_callS1 (k' := kX6_isRow) (d' := 1) dX6_raise_13 lmX6_100 ksX6_isRow (by decide) (by omega) (Nat.le_of_ble_eq_true rfl) ?_
          refine isRo_1 (by omega) hr_ ?_
          refine wa_if_neT 22 dX6_raise_16 (by decide) (by decide) ?_
          refine wa_aload_n dX6_raise_22 rfl ?_
          refine wa_getR dX6_raise_23 fgX6_7 (by first | assumption | rfl) (by rfl) ?_
          refine wa_iload_n dX6_raise_26 rfl ?_
          refine wa_zald _ dX6_raise_27 (by first | assumption | rfl) (by first | with_reducible rfl | with_reducible assumption | with_reducible exact ix_ma _ _ _ | with_reducible exact ix_maa _ _ _ _ | with_reducible exact ix_a _ _ | with_reducible exact ix_mama _ _ _ _ _) (by omega) ?_
          refine wa_if_neT 34 dX6_raise_28 (by decide) (by simp (disch := omega) only [sI_off, bI_off, sL_off, bL_off, r1l, r2l, rb1l, rb2l, r1m, r2m, rb1e, rb2e, r1e, r2e]; rw [s5_, h_]; decide) ?_
          refine wa_aload_n dX6_raise_34 rfl ?_
          refine wa_iload_n dX6_raise_35 rfl ?_
          refine wa_iconst (nI 0) dX6_raise_36 (by decide) ?_
          refine wa_callV2 (k' := kX6_those) (d' := 0) dX6_raise_37 lmX6_96 kvX6_those (by first | assumption | rfl) (by rfl) (by decide) (by omega) (Nat.le_of_ble_eq_true rfl) ?_
          refine wp_X6_those (n := n_) (by omega) (by simp (disch := omega) only [sI_off, bI_off, sL_off, bL_off, r1l, r2l, rb1l, rb2l, r1m, r2m, rb1e, rb2e, r1e, r2e]; exact s7_) s4_ ?_
          refine wa_if_leT 46 dX6_raise_40 (by decide) (by rw [show mF (bL (sI μ (43 + 5 * r_) 0 (nI n_)) (43 + 5 * r_ + 1) (frF (fun i => (μ.1 (7 + 4 * j_ + 1) i).toInt64) (μ.2 (43 + 5 * r_ + 1)) n_)) j_ = mF μ j_ from by funext i; show (sI μ (43 + 5 * r_) 0 (nI n_)).1 77 (64 * j_ + i) = _; rw [sI_off (by omega)]; rfl, cntN_c (f := mF μ j_) _ s9_, nI_toInt (by omega)]; omega) ?_
          refine wa_raise (n := n_) hj_ hr_ (by simp (disch := omega) only [sI_off, bI_off, sL_off, bL_off, r1l, r2l, rb1l, rb2l, r1m, r2m, rb1e, rb2e, r1e, r2e]; exact s7_) s4_ ⟨by simp (disch := omega) only [sI_off, bI_off, sL_off, bL_off, r1l, r2l, rb1l, rb2l, r1m, r2m, rb1e, rb2e, r1e, r2e], ?_⟩
          refine Rel_R (k := r_) (n := n_) hrel ?relr ?fs ?fr ?fp ?fw ?fm
          case fs =>
            intro j_ hj_
            refine ⟨?_, ?_, ?_, ?_, ?_, ?_, fun i_ hi_ => ?_, fun i_ hi_ => ?_⟩
            all_goals
              simp (disch := omega) only [sI_off, bI_off, sL_off, bL_off, r1l, r2l, rb1l, rb2l, r1m, r2m, rb1e, rb2e,rwF_no]
          case fr =>
            intro r_ hr_ hrk_
            refine ⟨?_, ?_, ?_, fun i_ hi_ => ?_⟩
            all_goals
              simp (disch := omega) only [sI_off, bI_off, sL_off, bL_off, r1l, r2l, rb1l, rb2l, r1m, r2m, rb1e, rb2e,rwF_no]
          case fp =>
            refine ⟨?_, ?_, ?_, ?_, ?_⟩
            all_goals
              simp (disch := omega) only [sI_off, bI_off, sL_off, bL_off, r1l, r2l, rb1l, rb2l, r1m, r2m, rb1e, rb2e,rwF_no]
          case fw =>
            refine ⟨?_, fun q_ ha_ hb_ => ?_⟩
            all_goals
              simp (disch := omega) only [sI_off, bI_off, sL_off, bL_off, r1l, r2l, rb1l, rb2l, r1m, r2m, rb1e, rb2e,rwF_no]
          case fm =>
            refine ⟨?_, ?_, fun q_ ha_ hb_ => ?_⟩
            all_goals
              simp (disch := omega) only [sI_off, bI_off, sL_off, bL_off, r1l, r2l, rb1l, rb2l, r1m, r2m, rb1e, rb2e,rwF_no]
          case relr =>
            refine ⟨by simp (disch := omega) only [sI_off, bI_off, sL_off, bL_off, r1l, r2l, rb1l, rb2l, r1m, r2m, rb1e, rb2e, r1e, r2e], s4_, by simp (disch := omega) only [sI_off, bI_off, sL_off, bL_off, r1l, r2l, rb1l, rb2l, r1m, r2m, rb1e, rb2e, r1e, r2e], fun i_ hi_ => ?_, ?_⟩
            · simp (disch := omega) only [sI_off, bI_off, sL_off, bL_off, r1l, r2l, rb1l, rb2l, r1m, r2m, rb1e, rb2e, r1e, r2e]
              rw [rwF_at hi_, frF_lt hi_, s8_ i_ hi_ (h0_ i_ hi_)]
            · simp (disch := omega) only [sI_off, bI_off, sL_off, bL_off, r1l, r2l, rb1l, rb2l, r1m, r2m, rb1e, rb2e, r1e, r2e]
              intro i_ hi_
              rw [frF_lt hi_, Int32.toInt_toInt64]
              have a1 := (μ.1 (7 + 4 * j_ + 1) i_).toInt_lt
              have a2 := (μ.1 (7 + 4 * j_ + 1) i_).le_toInt
              omega
        · try simp (disch := omega) only [nI_toInt, Int32.toInt_toInt64] at c41_5
          refine wa_bipush (-15) dX5_raise_44 (by decide) ?_
          refine wa_iret dX5_raise_46 rfl ?_
          rw [hk_, hw_]
          refine MW_of (by decide) [some (.ref 73), some (.int (nI j_)), some (.int (nI r_)), none] rfl (Nat.le_of_ble_eq_true rfl) ?_
          refine wa_iload_n dX6_raise_0 rfl ?_
          refine wa_i2l dX6_raise_1 ?_
          refine wa_lconst (0) dX6_raise_2 (by decide) ?_
          refine wa_ldc2 (7) dX6_raise_3 lcX6_58 ?_
          refine wa_callS3 (k' := kX6_in) (d' := 0) dX6_raise_6 lmX6_60 ksX6_in (by decide) (by omega) (Nat.le_of_ble_eq_true rfl) ?_
          refine in8_1 hj_ ?_
          refine wa_if_eqF 19 dX6_raise_9 (by decide) (by decide) ?_
          refine wa_iload_n dX6_raise_12 rfl ?_
          refine wa_callS1 (k' := kX6_isRow) (d' := 1) dX6_raise_13 lmX6_100 ksX6_isRow (by decide) (by omega) (Nat.le_of_ble_eq_true rfl) ?_
          refine isRo_1 (by omega) hr_ ?_
          refine wa_if_neT 22 dX6_raise_16 (by decide) (by decide) ?_
          refine wa_aload_n dX6_raise_22 rfl ?_
          refine wa_getR dX6_raise_23 fgX6_7 (by first | assumption | rfl) (by rfl) ?_
          refine wa_iload_n dX6_raise_26 rfl ?_
          refine wa_zald _ dX6_raise_27 (by first | assumption | rfl) (by first | with_reducible rfl | with_reducible assumption | with_reducible exact ix_ma _ _ _ | with_reducible exact ix_maa _ _ _ _ | with_reducible exact ix_a _ _ | with_reducible exact ix_mama _ _ _ _ _) (by omega) ?_
          refine wa_if_neT 34 dX6_raise_28 (by decide) (by rw [s5_, h_]; decide) ?_
          refine wa_aload_n dX6_raise_34 rfl ?_
          refine wa_iload_n dX6_raise_35 rfl ?_
          refine wa_iconst (nI 0) dX6_raise_36 (by decide) ?_
          refine wa_callV2 (k' := kX6_those) (d' := 0) dX6_raise_37 lmX6_96 kvX6_those (by first | assumption | rfl) (by rfl) (by decide) (by omega) (Nat.le_of_ble_eq_true rfl) ?_
          refine wp_X6_those (n := n_) (by omega) s7_ s4_ ?_
          refine wa_if_leF 46 dX6_raise_40 (by decide) (by rw [cntN_c (f := mF μ j_) _ s9_, nI_toInt (by omega)]; omega) ?_
          refine wa_bipush (-15) dX6_raise_43 (by decide) ?_
          refine wa_iret dX6_raise_45 rfl ?_
          exact ⟨rfl, hrel.up⟩
      · skip
        refine wa_if_neF 32 dX5_raise_26 (by decide) (by decide) ?_
        refine wa_bipush (-10) dX5_raise_29 (by decide) ?_
        refine wa_iret dX5_raise_31 rfl ?_
        rw [hk_, hw_]
        refine MW_of (by decide) [some (.ref 73), some (.int (nI j_)), some (.int (nI r_)), none] rfl (Nat.le_of_ble_eq_true rfl) ?_
        refine wa_iload_n dX6_raise_0 rfl ?_
        refine wa_i2l dX6_raise_1 ?_
        refine wa_lconst (0) dX6_raise_2 (by decide) ?_
        refine wa_ldc2 (7) dX6_raise_3 lcX6_58 ?_
        refine wa_callS3 (k' := kX6_in) (d' := 0) dX6_raise_6 lmX6_60 ksX6_in (by decide) (by omega) (Nat.le_of_ble_eq_true rfl) ?_
        refine in8_1 hj_ ?_
        refine wa_if_eqF 19 dX6_raise_9 (by decide) (by decide) ?_
        refine wa_iload_n dX6_raise_12 rfl ?_
        refine wa_callS1 (k' := kX6_isRow) (d' := 1) dX6_raise_13 lmX6_100 ksX6_isRow (by decide) (by omega) (Nat.le_of_ble_eq_true rfl) ?_
        refine isRo_1 (by omega) hr_ ?_
        refine wa_if_neT 22 dX6_raise_16 (by decide) (by decide) ?_
        refine wa_aload_n dX6_raise_22 rfl ?_
        refine wa_getR dX6_raise_23 fgX6_7 (by first | assumption | rfl) (by rfl) ?_
        refine wa_iload_n dX6_raise_26 rfl ?_
        refine wa_zald _ dX6_raise_27 (by first | assumption | rfl) (by first | with_reducible rfl | with_reducible assumption | with_reducible exact ix_ma _ _ _ | with_reducible exact ix_maa _ _ _ _ | with_reducible exact ix_a _ _ | with_reducible exact ix_mama _ _ _ _ _) (by omega) ?_
        refine wa_if_neF 34 dX6_raise_28 (by decide) (by rw [s5_, h_]; exact fun q => q rfl) ?_
        refine wa_bipush (-10) dX6_raise_31 (by decide) ?_
        refine wa_iret dX6_raise_33 rfl ?_
        exact ⟨rfl, hrel.up⟩
    · skip
      refine wa_if_neF 17 dX5_raise_11 (by decide) (by decide) ?_
      refine wa_bipush (-2) dX5_raise_14 (by decide) ?_
      refine wa_iret dX5_raise_16 rfl ?_
      rw [hk_]
      refine MW_of (by decide) [some (.ref 73), some (.int (nI j_)), some (.int w), none] rfl (Nat.le_of_ble_eq_true rfl) ?_
      refine wa_iload_n dX6_raise_0 rfl ?_
      refine wa_i2l dX6_raise_1 ?_
      refine wa_lconst (0) dX6_raise_2 (by decide) ?_
      refine wa_ldc2 (7) dX6_raise_3 lcX6_58 ?_
      refine wa_callS3 (k' := kX6_in) (d' := 0) dX6_raise_6 lmX6_60 ksX6_in (by decide) (by omega) (Nat.le_of_ble_eq_true rfl) ?_
      refine in8_1 hj_ ?_
      refine wa_if_eqF 19 dX6_raise_9 (by decide) (by decide) ?_
      refine wa_iload_n dX6_raise_12 rfl ?_
      refine wa_callS1 (k' := kX6_isRow) (d' := 1) dX6_raise_13 lmX6_100 ksX6_isRow (by decide) (by omega) (Nat.le_of_ble_eq_true rfl) ?_
      refine isRo_0 (by omega) hoob ?_
      refine wa_if_neF 22 dX6_raise_16 (by decide) (by decide) ?_
      refine wa_bipush (-2) dX6_raise_19 (by decide) ?_
      refine wa_iret dX6_raise_21 rfl ?_
      exact ⟨rfl, hrel.up⟩
  · skip
    refine wa_if_eqT 14 dX5_raise_4 (by decide) (by decide) ?_
    refine wa_bipush (-2) dX5_raise_14 (by decide) ?_
    refine wa_iret dX5_raise_16 rfl ?_
    skip
    refine MW_of (by decide) [some (.ref 73), some (.int k), some (.int w), none] rfl (Nat.le_of_ble_eq_true rfl) ?_
    refine wa_iload_n dX6_raise_0 rfl ?_
    refine wa_i2l dX6_raise_1 ?_
    refine wa_lconst (0) dX6_raise_2 (by decide) ?_
    refine wa_ldc2 (7) dX6_raise_3 lcX6_58 ?_
    refine wa_callS3 (k' := kX6_in) (d' := 0) dX6_raise_6 lmX6_60 ksX6_in (by decide) (by omega) (Nat.le_of_ble_eq_true rfl) ?_
    refine in8_0 hoob ?_
    refine wa_if_eqT 19 dX6_raise_9 (by decide) (by decide) ?_
    refine wa_bipush (-2) dX6_raise_19 (by decide) ?_
    refine wa_iret dX6_raise_21 rfl ?_
    exact ⟨rfl, hrel.up⟩
