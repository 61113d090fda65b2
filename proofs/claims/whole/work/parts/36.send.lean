/-! PAIRS: send -/
theorem rwI_2p (ν : Mem) (g h o1 o2 : Nat → Int32) {j i p : Nat} {x y : Int32} (hp : p = 64 * j + i) (hx : x = g i) (hy : y = h i) : sI (sI (bI (bI ν 77 (rwI g o1 j i)) 78 (rwI h o2 j i)) 77 p x) 78 p y = bI (bI ν 77 (rwI g o1 j (i + 1))) 78 (rwI h o2 j (i + 1)) := by
  rw [hp, hx, hy]
  exact rwI_2 ν g h o1 o2 j i
def sdMem (μ : Mem) (j n : Nat) : Mem := sI (sI (sI μ 73 8 (nI 1)) 75 8 (μ.1 75 j)) 76 8 (nI n)
def sdMem2 (μ : Mem) (j n : Nat) : Mem := bI (bI (sdMem μ j n) 77 (rwI (mF μ j) (μ.1 77) 8 n)) 78 (rwI (mV μ j) (μ.1 78) 8 n)
theorem wa_send {d j n : Nat} {μ : Mem} {Q : QM} (hj : j < 8) (hn : μ.1 76 j = nI n) (hn64 : n ≤ 64) (hQ : Q (some (.int (nI (pkN n)))) (bI (sI (sdMem2 μ j n) 73 9 (nI (pkN n))) 82 (fillF (μ.1 82) (nI 0) (pkN n)))) : WA kX6_send d Q 12 [some (.ref 73), some (.int (nI j)), some (.int (nI 0)), none, none] [] μ := by
  have hpk := pkN_le hn64
  have en : ∀ A B, (bI (bI (sdMem μ j n) 77 A) 78 B).1 76 j = nI n := fun A B => by
    unfold sdMem
    simp (disch := omega) only [bI_off, sI_off, r1m]
    exact hn
  have fin : ∀ m p, p + m = pkN n → WA kX6_send d Q 130 [some (.ref 73), some (.int (nI j)), some (.int (nI 0)), some (.int (nI (spN n))), some (.int (nI p))] [] (bI (sI (sdMem2 μ j n) 73 9 (nI (pkN n))) 82 (fillF (μ.1 82) (nI 0) p)) := by
    intro m
    induction m with
    | zero =>
      intro p hp
      obtain rfl : p = pkN n := by omega
      refine wa_iload dX6_send_130 rfl ?_
      refine wa_aload_n dX6_send_132 rfl ?_
      refine wa_getI dX6_send_133 fgX6_183 (by first | assumption | rfl) (by rfl) ?_
      refine wa_ic_geT 153 dX6_send_136 (by decide) (by simp (disch := omega) only [sI_off, bI_off, sL_off, bL_off, r1l, r2l, rb1l, rb2l, r1m, r2m, rb1e, rb2e, r1e, r2e]; exact le_nI (by omega) (by omega)) ?_
      refine wa_aload_n dX6_send_153 rfl ?_
      refine wa_getI dX6_send_154 fgX6_183 (by first | assumption | rfl) (by rfl) ?_
      refine wa_iret dX6_send_157 rfl ?_
      simp (disch := omega) only [sI_off, bI_off, sL_off, bL_off, r1l, r2l, rb1l, rb2l, r1m, r2m, rb1e, rb2e, r1e, r2e]; exact hQ
    | succ m ih =>
      intro p hp
      have e_ := ih (p + 1) (by omega)
      refine wa_iload dX6_send_130 rfl ?_
      refine wa_aload_n dX6_send_132 rfl ?_
      refine wa_getI dX6_send_133 fgX6_183 (by first | assumption | rfl) (by rfl) ?_
      refine wa_ic_geF 153 dX6_send_136 (by decide) (by simp (disch := omega) only [sI_off, bI_off, sL_off, bL_off, r1l, r2l, rb1l, rb2l, r1m, r2m, rb1e, rb2e, r1e, r2e]; exact nle_nI (by omega) (by omega)) ?_
      refine wa_aload_n dX6_send_139 rfl ?_
      refine wa_getR dX6_send_140 fgX6_36 (by first | assumption | rfl) (by rfl) ?_
      refine wa_iload dX6_send_143 rfl ?_
      refine wa_iconst (nI 0) dX6_send_145 (by decide) ?_
      refine wa_zast _ dX6_send_146 (by first | assumption | rfl) (by first | with_reducible rfl | with_reducible assumption | with_reducible exact ix_ma _ _ _ | with_reducible exact ix_maa _ _ _ _ | with_reducible exact ix_a _ _ | with_reducible exact ix_mama _ _ _ _ _) (by omega) (Or.inl rfl) ?_
      refine wa_iinc (nI 1) dX6_send_147 rfl (by decide) (by decide) ?_
      refine wa_goto 130 dX6_send_150 (by decide) ?_
      rw [sIb, fillF_s]
      simp only [nI_add]
      exact e_
  have loop : ∀ m i, i + m = n → WA kX6_send d Q 45 [some (.ref 73), some (.int (nI j)), some (.int (nI 0)), some (.int (nI i)), none] [] (bI (bI (sdMem μ j n) 77 (rwI (mF μ j) (μ.1 77) 8 i)) 78 (rwI (mV μ j) (μ.1 78) 8 i)) := by
    intro m
    induction m with
    | zero =>
      intro i hi
      obtain rfl : i = n := by omega
      have e0 := fin (pkN i) 0 (by omega)
      have e82 : (sI (sdMem2 μ j i) 73 9 (nI (pkN i))).1 82 = μ.1 82 := by unfold sdMem2 sdMem; simp (disch := omega) only [sI_off, bI_off, sL_off, bL_off, r1l, r2l, rb1l, rb2l, r1m, r2m, rb1e, rb2e, r1e, r2e]
      have e1 := bI_self (sI (sdMem2 μ j i) 73 9 (nI (pkN i))) 82
      rw [e82] at e1
      rw [fillF_0, e1] at e0
      unfold sdMem2 at e0
      have ediv : (nI i + nI 7) / nI 8 = nI (spN i) := by
        rw [nI_add, pk_div (by omega) (by omega) (by omega)]
        rfl
      have hs := spN_le hn64
      have ediv2 : nI (spN i) + (nI (spN i) + nI 3) / nI 4 = nI (pkN i) := by
        rw [nI_add, pk_div (by omega) (by omega) (by omega), nI_add]
        rfl
      refine wa_iload_n dX6_send_45 rfl ?_
      refine wa_aload_n dX6_send_46 rfl ?_
      refine wa_getR dX6_send_47 fgX6_17 (by first | assumption | rfl) (by rfl) ?_
      refine wa_iload_n dX6_send_50 rfl ?_
      refine wa_iald _ dX6_send_51 (by first | assumption | rfl) (by first | with_reducible rfl | with_reducible assumption | with_reducible exact ix_ma _ _ _ | with_reducible exact ix_maa _ _ _ _ | with_reducible exact ix_a _ _ | with_reducible exact ix_mama _ _ _ _ _) (by omega) ?_
      refine wa_ic_geT 103 dX6_send_52 (by decide) (by rw [en]; exact le_nI (by omega) (by omega)) ?_
      refine wa_aload_n dX6_send_103 rfl ?_
      refine wa_getR dX6_send_104 fgX6_17 (by first | assumption | rfl) (by rfl) ?_
      refine wa_iload_n dX6_send_107 rfl ?_
      refine wa_iald _ dX6_send_108 (by first | assumption | rfl) (by first | with_reducible rfl | with_reducible assumption | with_reducible exact ix_ma _ _ _ | with_reducible exact ix_maa _ _ _ _ | with_reducible exact ix_a _ _ | with_reducible exact ix_mama _ _ _ _ _) (by omega) ?_
      rw [en]
      refine wa_bipush (nI 7) dX6_send_109 (by decide) ?_
      refine wa_iadd dX6_send_111 ?_
      refine wa_bipush (nI 8) dX6_send_112 (by decide) ?_
      refine wa_idiv dX6_send_114 (by decide) ?_
      rw [ediv]
      refine wa_istore_n dX6_send_115 (by decide) ?_
      refine wa_aload_n dX6_send_116 rfl ?_
      refine wa_iload_n dX6_send_117 rfl ?_
      refine wa_iload_n dX6_send_118 rfl ?_
      refine wa_iconst (nI 3) dX6_send_119 (by decide) ?_
      refine wa_iadd dX6_send_120 ?_
      refine wa_iconst (nI 4) dX6_send_121 (by decide) ?_
      refine wa_idiv dX6_send_122 (by decide) ?_
      refine wa_iadd dX6_send_123 ?_
      rw [ediv2]
      refine wa_putI dX6_send_124 fgX6_183 fw6_9 (by first | assumption | rfl) (by rfl) ?_
      refine wa_iconst (nI 0) dX6_send_127 (by decide) ?_
      refine wa_istore dX6_send_128 (by decide) ?_
      exact e0
    | succ m ih =>
      intro i hi
      have e_ := ih (i + 1) (by omega)
      refine wa_iload_n dX6_send_45 rfl ?_
      refine wa_aload_n dX6_send_46 rfl ?_
      refine wa_getR dX6_send_47 fgX6_17 (by first | assumption | rfl) (by rfl) ?_
      refine wa_iload_n dX6_send_50 rfl ?_
      refine wa_iald _ dX6_send_51 (by first | assumption | rfl) (by first | with_reducible rfl | with_reducible assumption | with_reducible exact ix_ma _ _ _ | with_reducible exact ix_maa _ _ _ _ | with_reducible exact ix_a _ _ | with_reducible exact ix_mama _ _ _ _ _) (by omega) ?_
      refine wa_ic_geF 103 dX6_send_52 (by decide) (by rw [en]; exact nle_nI (by omega) (by omega)) ?_
      refine wa_aload_n dX6_send_55 rfl ?_
      refine wa_getR dX6_send_56 fgX6_20 (by first | assumption | rfl) (by rfl) ?_
      refine wa_sipush (nI 512) dX6_send_59 (by decide) ?_
      refine wa_iload_n dX6_send_62 rfl ?_
      refine wa_iadd dX6_send_63 ?_
      refine wa_aload_n dX6_send_64 rfl ?_
      refine wa_getR dX6_send_65 fgX6_20 (by first | assumption | rfl) (by rfl) ?_
      refine wa_bipush (nI 64) dX6_send_68 (by decide) ?_
      refine wa_iload_n dX6_send_70 rfl ?_
      refine wa_imul dX6_send_71 ?_
      refine wa_iload_n dX6_send_72 rfl ?_
      refine wa_iadd dX6_send_73 ?_
      refine wa_iald _ dX6_send_74 (by first | assumption | rfl) (by first | with_reducible rfl | with_reducible assumption | with_reducible exact ix_ma _ _ _ | with_reducible exact ix_maa _ _ _ _ | with_reducible exact ix_a _ _ | with_reducible exact ix_mama _ _ _ _ _) (by omega) ?_
      refine wa_iast _ dX6_send_75 (by first | assumption | rfl) (by first | with_reducible rfl | with_reducible assumption | with_reducible exact ix_ma _ _ _ | with_reducible exact ix_maa _ _ _ _ | with_reducible exact ix_a _ _ | with_reducible exact ix_mama _ _ _ _ _) (by omega) ?_
      refine wa_aload_n dX6_send_76 rfl ?_
      refine wa_getR dX6_send_77 fgX6_23 (by first | assumption | rfl) (by rfl) ?_
      refine wa_sipush (nI 512) dX6_send_80 (by decide) ?_
      refine wa_iload_n dX6_send_83 rfl ?_
      refine wa_iadd dX6_send_84 ?_
      refine wa_aload_n dX6_send_85 rfl ?_
      refine wa_getR dX6_send_86 fgX6_23 (by first | assumption | rfl) (by rfl) ?_
      refine wa_bipush (nI 64) dX6_send_89 (by decide) ?_
      refine wa_iload_n dX6_send_91 rfl ?_
      refine wa_imul dX6_send_92 ?_
      refine wa_iload_n dX6_send_93 rfl ?_
      refine wa_iadd dX6_send_94 ?_
      refine wa_iald _ dX6_send_95 (by first | assumption | rfl) (by first | with_reducible rfl | with_reducible assumption | with_reducible exact ix_ma _ _ _ | with_reducible exact ix_maa _ _ _ _ | with_reducible exact ix_a _ _ | with_reducible exact ix_mama _ _ _ _ _) (by omega) ?_
      refine wa_iast _ dX6_send_96 (by first | assumption | rfl) (by first | with_reducible rfl | with_reducible assumption | with_reducible exact ix_ma _ _ _ | with_reducible exact ix_maa _ _ _ _ | with_reducible exact ix_a _ _ | with_reducible exact ix_mama _ _ _ _ _) (by omega) ?_
      refine wa_iinc (nI 1) dX6_send_97 rfl (by decide) (by decide) ?_
      refine wa_goto 45 dX6_send_100 (by decide) ?_
      rw [rwI_2p _ (mF μ j) (mV μ j) _ _ (by omega) ?ha ?hb]
      case ha =>
        unfold sdMem
        simp (disch := omega) only [bI_off, sI_off, r1m, rb1e, rwI_no]
        rfl
      case hb =>
        unfold sdMem
        simp (disch := omega) only [bI_off, sI_off, r1m, rb1e, rwI_no]
        rfl
      simp only [nI_add]
      exact e_
  have e0 := loop n 0 (by omega)
  have e1 := rwI_00 (sdMem μ j n) (mF μ j) (mV μ j) 8
  have e2 : (sdMem μ j n).1 77 = μ.1 77 := by unfold sdMem; simp (disch := omega) only [sI_off, bI_off, sL_off, bL_off, r1l, r2l, rb1l, rb2l, r1m, r2m, rb1e, rb2e, r1e, r2e]
  have e3 : (sdMem μ j n).1 78 = μ.1 78 := by unfold sdMem; simp (disch := omega) only [sI_off, bI_off, sL_off, bL_off, r1l, r2l, rb1l, rb2l, r1m, r2m, rb1e, rb2e, r1e, r2e]
  rw [e2, e3] at e1
  rw [e1] at e0
  unfold sdMem at e0
  refine wa_aload_n dX6_send_12 rfl ?_
  refine wa_iconst (nI 1) dX6_send_13 (by decide) ?_
  refine wa_putZ dX6_send_14 fgX6_179 fw6_8 (by first | assumption | rfl) (by rfl) (Or.inr rfl) ?_
  refine wa_aload_n dX6_send_17 rfl ?_
  refine wa_getR dX6_send_18 fgX6_13 (by first | assumption | rfl) (by rfl) ?_
  refine wa_bipush (nI 8) dX6_send_21 (by decide) ?_
  refine wa_aload_n dX6_send_23 rfl ?_
  refine wa_getR dX6_send_24 fgX6_13 (by first | assumption | rfl) (by rfl) ?_
  refine wa_iload_n dX6_send_27 rfl ?_
  refine wa_iald _ dX6_send_28 (by first | assumption | rfl) (by first | with_reducible rfl | with_reducible assumption | with_reducible exact ix_ma _ _ _ | with_reducible exact ix_maa _ _ _ _ | with_reducible exact ix_a _ _ | with_reducible exact ix_mama _ _ _ _ _) (by omega) ?_
  refine wa_iast _ dX6_send_29 (by first | assumption | rfl) (by first | with_reducible rfl | with_reducible assumption | with_reducible exact ix_ma _ _ _ | with_reducible exact ix_maa _ _ _ _ | with_reducible exact ix_a _ _ | with_reducible exact ix_mama _ _ _ _ _) (by omega) ?_
  refine wa_aload_n dX6_send_30 rfl ?_
  refine wa_getR dX6_send_31 fgX6_17 (by first | assumption | rfl) (by rfl) ?_
  refine wa_bipush (nI 8) dX6_send_34 (by decide) ?_
  refine wa_aload_n dX6_send_36 rfl ?_
  refine wa_getR dX6_send_37 fgX6_17 (by first | assumption | rfl) (by rfl) ?_
  refine wa_iload_n dX6_send_40 rfl ?_
  refine wa_iald _ dX6_send_41 (by first | assumption | rfl) (by first | with_reducible rfl | with_reducible assumption | with_reducible exact ix_ma _ _ _ | with_reducible exact ix_maa _ _ _ _ | with_reducible exact ix_a _ _ | with_reducible exact ix_mama _ _ _ _ _) (by omega) ?_
  refine wa_iast _ dX6_send_42 (by first | assumption | rfl) (by first | with_reducible rfl | with_reducible assumption | with_reducible exact ix_ma _ _ _ | with_reducible exact ix_maa _ _ _ _ | with_reducible exact ix_a _ _ | with_reducible exact ix_mama _ _ _ _ _) (by omega) ?_
  refine wa_iconst (nI 0) dX6_send_43 (by decide) ?_
  refine wa_istore_n dX6_send_44 (by decide) ?_
  simp (disch := omega) only [sI_off, r1m]
  rw [hn]
  exact e0
theorem nI10 : ¬ nI 1 = nI 0 := by decide
theorem pr_send (k : Int32) : PR kX5_send kX6_send [.int k] := by
  intro N μ d c hd hc hN hrel
  have hth := hrel.th
  refine MW_of (by decide) [some (.ref 0), some (.int k), none] rfl (Nat.le_of_ble_eq_true rfl) ?_
  refine wa_aload_n dX5_send_0 rfl ?_
  refine wa_iload_n dX5_send_1 rfl ?_
  refine wa_callV1 (k' := kX5_sheetFailure) (d' := 1) dX5_send_2 lmX5_52 kvX5_sheetFailure (by first | assumption | rfl) (by rfl) (by decide) (by omega) (Nat.le_of_ble_eq_true rfl) ?_
  refine wp_X5_sheetFailure (by omega) hth (fun hoob => ?_) (fun j_ hj_ hk_ h_ => ?_) (fun j_ hj_ hk_ h_ => ?_)
  · skip
    refine wa_istore_n dX5_send_5 (by decide) ?_
    refine wa_iload_n dX5_send_6 rfl ?_
    refine wa_if_eqF 12 dX5_send_7 (by decide) (by decide) ?_
    refine wa_iload_n dX5_send_10 rfl ?_
    refine wa_iret dX5_send_11 rfl ?_
    skip
    refine MW_of (by decide) [some (.ref 73), some (.int k), none, none, none] rfl (Nat.le_of_ble_eq_true rfl) ?_
    refine wa_aload_n dX6_send_0 rfl ?_
    refine wa_iload_n dX6_send_1 rfl ?_
    refine wa_callV1 (k' := kX6_noSheet) (d' := 1) dX6_send_2 lmX6_66 kvX6_noSheet (by first | assumption | rfl) (by rfl) (by decide) (by omega) (Nat.le_of_ble_eq_true rfl) ?_
    refine noSh_B (by omega) hoob ?_
    refine wa_istore_n dX6_send_5 (by decide) ?_
    refine wa_iload_n dX6_send_6 rfl ?_
    refine wa_if_geF 12 dX6_send_7 (by decide) (by decide) ?_
    refine wa_iload_n dX6_send_10 rfl ?_
    refine wa_iret dX6_send_11 rfl ?_
    exact ⟨rfl, hrel.up⟩
  · skip
    refine wa_istore_n dX5_send_5 (by decide) ?_
    refine wa_iload_n dX5_send_6 rfl ?_
    refine wa_if_eqF 12 dX5_send_7 (by decide) (by decide) ?_
    refine wa_iload_n dX5_send_10 rfl ?_
    refine wa_iret dX5_send_11 rfl ?_
    rw [hk_]
    obtain ⟨n_, s1_, s2_, s3_, s4_, s5_, s6_, s7_, s8_, s9_, s10_⟩ := hrel.1 j_ (by omega)
    have s5_ := s5_ (by omega)
    refine MW_of (by decide) [some (.ref 73), some (.int (nI j_)), none, none, none] rfl (Nat.le_of_ble_eq_true rfl) ?_
    refine wa_aload_n dX6_send_0 rfl ?_
    refine wa_iload_n dX6_send_1 rfl ?_
    refine wa_callV1 (k' := kX6_noSheet) (d' := 1) dX6_send_2 lmX6_66 kvX6_noSheet (by first | assumption | rfl) (by rfl) (by decide) (by omega) (Nat.le_of_ble_eq_true rfl) ?_
    refine noSh_N (by omega) hj_ (s5_.trans h_) ?_
    refine wa_istore_n dX6_send_5 (by decide) ?_
    refine wa_iload_n dX6_send_6 rfl ?_
    refine wa_if_geF 12 dX6_send_7 (by decide) (by decide) ?_
    refine wa_iload_n dX6_send_10 rfl ?_
    refine wa_iret dX6_send_11 rfl ?_
    exact ⟨rfl, hrel.up⟩
  · skip
    obtain ⟨n_, s1_, s2_, s3_, s4_, s5_, s6_, s7_, s8_, s9_, s10_⟩ := hrel.1 j_ (by omega); have s5_ := s5_ (by omega); have hS_ := isS_k (show j_ < 9 by omega); have hsh_ := (isS_sh hS_).1
    refine wa_istore_n dX5_send_5 (by decide) ?_
    refine wa_iload_n dX5_send_6 rfl ?_
    refine wa_if_eqT 12 dX5_send_7 (by decide) (by decide) ?_
    refine wa_aload_n dX5_send_12 rfl ?_
    refine wa_getR dX5_send_13 fgX5_26 (by first | assumption | rfl) (by rfl) ?_
    refine wa_aload_n dX5_send_16 rfl ?_
    refine wa_getR dX5_send_17 fgX5_11 (by first | assumption | rfl) (by rfl) ?_
    refine wa_iload_n dX5_send_20 rfl ?_
    refine wa_aalS _ dX5_send_21 (by first | assumption | rfl) (by exact hk_) (by omega) ?_
    rw [show arf 1 j_ = 7 + 4 * j_ from rfl]
    refine wa_callV1 (k' := kX1_load) (d' := 2) dX5_send_22 lmX5_203 kvX1_load (by first | assumption | rfl) (by rfl) (by decide) (by omega) (Nat.le_of_ble_eq_true rfl) ?_
    refine wp_X1_load (n := n_) (by omega) hS_ (by omega) s3_ s4_ (fun ν_ v1_ v2_ v3_ v4_ v5_ v6_ v7_ => ?_)
    refine wa_aload_n dX5_send_25 rfl ?_
    refine wa_getR dX5_send_26 fgX5_26 (by first | assumption | rfl) (by rfl) ?_
    refine wa_callV0 (k' := kX1_size) (d' := 2) dX5_send_29 lmX5_206 kvX1_size (by first | assumption | rfl) (by rfl) (by decide) (by omega) (Nat.le_of_ble_eq_true rfl) ?_
    refine wp_X1_size (n := n_) (by omega) v5_ s4_ ?_
    refine wa_iret dX5_send_32 rfl ?_
    rw [hk_]
    have hpk_ := pkN_le s4_
    have g1_ : ∀ i, mF ν_ j_ i = μ.1 77 (64 * j_ + i) := fun i => by show ν_.1 77 _ = _; rw [v2_ 77 (by omega) (by omega) (by omega) (by omega)]
    have g2_ : ∀ i, mV ν_ j_ i = μ.1 78 (64 * j_ + i) := fun i => by show ν_.1 78 _ = _; rw [v2_ 78 (by omega) (by omega) (by omega) (by omega)]
    refine MW_of (by decide) [some (.ref 73), some (.int (nI j_)), none, none, none] rfl (Nat.le_of_ble_eq_true rfl) ?_
    refine wa_aload_n dX6_send_0 rfl ?_
    refine wa_iload_n dX6_send_1 rfl ?_
    refine wa_callV1 (k' := kX6_noSheet) (d' := 1) dX6_send_2 lmX6_66 kvX6_noSheet (by first | assumption | rfl) (by rfl) (by decide) (by omega) (Nat.le_of_ble_eq_true rfl) ?_
    refine noSh_F (by omega) hj_ (by rw [v2_ 74 (by omega) (by omega) (by omega) (by omega)]; exact s5_.trans h_) ?_
    refine wa_istore_n dX6_send_5 (by decide) ?_
    refine wa_iload_n dX6_send_6 rfl ?_
    refine wa_if_geT 12 dX6_send_7 (by decide) (by decide) ?_
    refine wa_send (n := n_) hj_ (by rw [v2_ 76 (by omega) (by omega) (by omega) (by omega)]; exact s7_) s4_ ⟨rfl, ?_⟩
    unfold sdMem2 sdMem
    refine Rel_P (n := n_) hrel ?rs ?relp ?fs ?fr ?fw ?fm
    case fs =>
      intro j_ hj_
      refine ⟨?_, ?_, ?_, ?_, ?_, ?_, fun i_ hi_ => ?_, fun i_ hi_ => ?_⟩
      all_goals
        simp (disch := omega) only [sI_off, bI_off, sL_off, bL_off, r1l, r2l, rb1l, rb2l, r1m, r2m, rb1e, rb2e,rwI_no,v1_,v2_]
    case fr =>
      intro r_ hr_
      refine ⟨?_, ?_, ?_, fun i_ hi_ => ?_⟩
      all_goals
        simp (disch := omega) only [sI_off, bI_off, sL_off, bL_off, r1l, r2l, rb1l, rb2l, r1m, r2m, rb1e, rb2e,rwI_no,v1_,v2_]
    case fw =>
      refine ⟨?_, fun q_ ha_ hb_ => ?_⟩
      all_goals
        simp (disch := omega) only [sI_off, bI_off, sL_off, bL_off, r1l, r2l, rb1l, rb2l, r1m, r2m, rb1e, rb2e,rwI_no,v1_,v2_]
    case fm =>
      refine ⟨?_, ?_, fun q_ ha_ hb_ => ?_⟩
      all_goals
        simp (disch := omega) only [sI_off, bI_off, sL_off, bL_off, r1l, r2l, rb1l, rb2l, r1m, r2m, rb1e, rb2e,rwI_no,v1_,v2_]
    case rs =>
      refine ⟨n_, Or.inr ?_, ?_, ?_, s4_, fun q_ => absurd q_ (by omega), ?_, ?_, fun i_ hb_ hz_ => ?_, fun i_ hb_ => ?_, fun i_ hb_ => ?_⟩
      · simp (disch := omega) only [sI_off, bI_off, sL_off, bL_off, r1l, r2l, rb1l, rb2l, r1m, r2m, rb1e, rb2e, r1e, r2e]; exact v3_
      · simp (disch := omega) only [sI_off, bI_off, sL_off, bL_off, r1l, r2l, rb1l, rb2l, r1m, r2m, rb1e, rb2e, r1e, r2e]
        show st3 (ν_.1 39 1)
        rw [v4_]; exact s2_
      · simp (disch := omega) only [sI_off, bI_off, sL_off, bL_off, r1l, r2l, rb1l, rb2l, r1m, r2m, rb1e, rb2e, r1e, r2e]; exact v5_
      · simp (disch := omega) only [sI_off, bI_off, sL_off, bL_off, r1l, r2l, rb1l, rb2l, r1m, r2m, rb1e, rb2e, r1e, r2e]
        show ν_.1 75 j_ = ν_.1 39 1
        rw [v4_, v2_ 75 (by omega) (by omega) (by omega) (by omega), s6_]
      · simp (disch := omega) only [sI_off, bI_off, sL_off, bL_off, r1l, r2l, rb1l, rb2l, r1m, r2m, rb1e, rb2e, r1e, r2e]
      · revert hz_
        simp (disch := omega) only [sI_off, bI_off, sL_off, bL_off, r1l, r2l, rb1l, rb2l, r1m, r2m, rb1e, rb2e, r1e, r2e]
        intro hz_
        rw [rwI_at hb_, g2_]
        refine (s8_ i_ hb_ (fun q_ => hz_ ?_)).trans (v6_ i_ hb_).1.symm
        exact (v6_ i_ hb_).2.trans q_
      · simp (disch := omega) only [sI_off, bI_off, sL_off, bL_off, r1l, r2l, rb1l, rb2l, r1m, r2m, rb1e, rb2e, r1e, r2e]
        rw [rwI_at hb_, g1_, s9_ i_ hb_]
        exact (v6_ i_ hb_).2.symm
      · simp (disch := omega) only [sI_off, bI_off, sL_off, bL_off, r1l, r2l, rb1l, rb2l, r1m, r2m, rb1e, rb2e, r1e, r2e]
        show st3 (ν_.1 41 i_)
        rw [(v6_ i_ hb_).2]
        exact s10_ i_ hb_
    case relp =>
      refine ⟨by simp (disch := omega) only [sI_off, bI_off, sL_off, bL_off, r1l, r2l, rb1l, rb2l, r1m, r2m, rb1e, rb2e, r1e, r2e]; exact v5_, s4_, Or.inr (by simp (disch := omega) only [sI_off, bI_off, sL_off, bL_off, r1l, r2l, rb1l, rb2l, r1m, r2m, rb1e, rb2e, r1e, r2e]; exact v3_), ?_, ?_, by simp (disch := omega) only [sI_off, bI_off, sL_off, bL_off, r1l, r2l, rb1l, rb2l, r1m, r2m, rb1e, rb2e, r1e, r2e], fun q_ hq_ => ?_, fun q_ hq_ => Or.inl ?_, fun q_ hq_ hq2_ => ?_⟩
      · simp (disch := omega) only [sI_off, bI_off, sL_off, bL_off, r1l, r2l, rb1l, rb2l, r1m, r2m, rb1e, rb2e, r1e, r2e]
        exact v3_.symm
      · simp (disch := omega) only [sI_off, bI_off, sL_off, bL_off, r1l, r2l, rb1l, rb2l, r1m, r2m, rb1e, rb2e, r1e, r2e]
        rw [v3_]
        exact fun q_ => absurd q_ nI10
      · simp (disch := omega) only [sI_off, bI_off, sL_off, bL_off, r1l, r2l, rb1l, rb2l, r1m, r2m, rb1e, rb2e, r1e, r2e]
        rw [fillF, if_pos hq_, v7_ q_ (by omega)]
      · simp (disch := omega) only [sI_off, bI_off, sL_off, bL_off, r1l, r2l, rb1l, rb2l, r1m, r2m, rb1e, rb2e, r1e, r2e]
        exact v7_ q_ hq_
      · simp (disch := omega) only [sI_off, bI_off, sL_off, bL_off, r1l, r2l, rb1l, rb2l, r1m, r2m, rb1e, rb2e, r1e, r2e]
        exact v7_ q_ hq2_
