/-! PAIRS: receive -/
def rcF (c : Nat → Bool) (f : Nat → Int32) (i : Nat) : Int32 := if c i = true then f (512 + i) else nI 0
def rvMem (μ : Mem) (j n : Nat) : Mem := sI (sI (sI μ 74 j (nI 1)) 75 j (μ.1 75 8)) 76 j (nI n)
theorem wa_receive {d j n : Nat} {μ : Mem} {Q : QM} (hj : j < 8) (hn : μ.1 76 8 = nI n) (hn64 : n ≤ 64) (hd : 1 ≤ d) (hQ : Q (some (.int (nI (cntN (rcF (fun i => comP (μ.1 82) n (i / 8)) (μ.1 77)) (nI 0) n)))) (bI (bI (rvMem μ j n) 77 (rwI (rcF (fun i => comP (μ.1 82) n (i / 8)) (μ.1 77)) (μ.1 77) j n)) 78 (rwI (rcF (fun i => comP (μ.1 82) n (i / 8)) (μ.1 78)) (μ.1 78) j n))) : WA kX6_receive d Q 25 [some (.ref 73), some (.int (nI j)), none, none, none] [] μ := by
  generalize hS_ : rcF (fun i => comP (μ.1 82) n (i / 8)) (μ.1 77) = S_ at hQ
  generalize hV_ : rcF (fun i => comP (μ.1 82) n (i / 8)) (μ.1 78) = V_ at hQ
  have en : ∀ A B, (bI (bI (rvMem μ j n) 77 A) 78 B).1 76 8 = nI n := fun A B => by
    unfold rvMem
    simp (disch := omega) only [bI_off, sI_off, r1m]
    exact hn
  have e82 : ∀ A B, (bI (bI (rvMem μ j n) 77 A) 78 B).1 82 = μ.1 82 := fun A B => by
    unfold rvMem
    simp (disch := omega) only [bI_off, sI_off]
  have loop : ∀ m i, i + m = n → ∀ z, WA kX6_receive d Q 62 [some (.ref 73), some (.int (nI j)), some (.int (nI (cntN S_ (nI 0) i))), some (.int (nI i)), z] [] (bI (bI (rvMem μ j n) 77 (rwI S_ (μ.1 77) j i)) 78 (rwI V_ (μ.1 78) j i)) := by
    intro m
    induction m with
    | zero =>
      intro i hi z
      obtain rfl : i = n := by omega
      refine wa_iload_n dX6_receive_62 rfl ?_
      refine wa_aload_n dX6_receive_63 rfl ?_
      refine wa_getR dX6_receive_64 fgX6_17 (by first | assumption | rfl) (by rfl) ?_
      refine wa_bipush (nI 8) dX6_receive_67 (by decide) ?_
      refine wa_iald _ dX6_receive_69 (by first | assumption | rfl) (by first | with_reducible rfl | with_reducible assumption | with_reducible exact ix_ma _ _ _ | with_reducible exact ix_maa _ _ _ _ | with_reducible exact ix_a _ _ | with_reducible exact ix_mama _ _ _ _ _) (by omega) ?_
      refine wa_ic_geT 171 dX6_receive_70 (by decide) (by rw [en]; exact le_nI (by omega) (by omega)) ?_
      refine wa_iload_n dX6_receive_171 rfl ?_
      refine wa_iret dX6_receive_172 rfl ?_
      exact hQ
    | succ m ih =>
      intro i hi z
      have e_ := ih (i + 1) (by omega)
      have w77 : (bI (bI (rvMem μ j n) 77 (rwI S_ (μ.1 77) j i)) 78 (rwI V_ (μ.1 78) j i)).1 77 (512 + i) = μ.1 77 (512 + i) := by
        simp (disch := omega) only [bI_off, rb1e, rwI_no]
      have w78 : ∀ x, (sI (bI (bI (rvMem μ j n) 77 (rwI S_ (μ.1 77) j i)) 78 (rwI V_ (μ.1 78) j i)) 77 (64 * j + i) x).1 78 (512 + i) = μ.1 78 (512 + i) := fun x => by
        simp (disch := omega) only [sI_off, bI_off, rb1e, rwI_no]
      have hT_ : comP (μ.1 82) n (i / 8) = true → S_ i = μ.1 77 (512 + i) ∧ V_ i = μ.1 78 (512 + i) := fun q => by
        rw [← hS_, ← hV_, rcF, rcF, if_pos q, if_pos q]
        exact ⟨rfl, rfl⟩
      have hF_ : comP (μ.1 82) n (i / 8) = false → S_ i = nI 0 ∧ V_ i = nI 0 := fun q => by
        rw [← hS_, ← hV_, rcF, rcF, if_neg (by rw [q]; decide), if_neg (by rw [q]; decide)]
        exact ⟨rfl, rfl⟩
      have z0_ := nI_0z
      refine wa_iload_n dX6_receive_62 rfl ?_
      refine wa_aload_n dX6_receive_63 rfl ?_
      refine wa_getR dX6_receive_64 fgX6_17 (by first | assumption | rfl) (by rfl) ?_
      refine wa_bipush (nI 8) dX6_receive_67 (by decide) ?_
      refine wa_iald _ dX6_receive_69 (by first | assumption | rfl) (by first | with_reducible rfl | with_reducible assumption | with_reducible exact ix_ma _ _ _ | with_reducible exact ix_maa _ _ _ _ | with_reducible exact ix_a _ _ | with_reducible exact ix_mama _ _ _ _ _) (by omega) ?_
      refine wa_ic_geF 171 dX6_receive_70 (by decide) (by rw [en]; exact nle_nI (by omega) (by omega)) ?_
      refine wa_aload_n dX6_receive_73 rfl ?_
      refine wa_iload_n dX6_receive_74 rfl ?_
      refine wa_bipush (nI 8) dX6_receive_75 (by decide) ?_
      refine wa_idiv dX6_receive_77 (by decide) ?_
      refine wa_callV1 (k' := kX6_comes) (d' := 0) dX6_receive_78 lmX6_186 kvX6_comes (by first | assumption | rfl) (by rfl) (by decide) (by omega) (Nat.le_of_ble_eq_true rfl) ?_
      refine wp_X6_comes (n := n) (j := i / 8) (pk_div (by omega) (by omega) (by omega)) (en _ _) hn64 (by unfold spN; omega) (fun hc_ => ?_) (fun hc_ => ?_)
      · skip
        rw [e82] at hc_; obtain ⟨hSi_, hVi_⟩ := hT_ hc_
        try (exfalso; omega)
        all_goals
          skip
          refine wa_istore dX6_receive_81 (by decide) ?_
          refine wa_aload_n dX6_receive_83 rfl ?_
          refine wa_getR dX6_receive_84 fgX6_20 (by first | assumption | rfl) (by rfl) ?_
          refine wa_bipush (nI 64) dX6_receive_87 (by decide) ?_
          refine wa_iload_n dX6_receive_89 rfl ?_
          refine wa_imul dX6_receive_90 ?_
          refine wa_iload_n dX6_receive_91 rfl ?_
          refine wa_iadd dX6_receive_92 ?_
          refine wa_iload dX6_receive_93 rfl ?_
          refine wa_if_eqF 111 dX6_receive_95 (by decide) (by decide) ?_
          refine wa_aload_n dX6_receive_98 rfl ?_
          refine wa_getR dX6_receive_99 fgX6_20 (by first | assumption | rfl) (by rfl) ?_
          refine wa_sipush (nI 512) dX6_receive_102 (by decide) ?_
          refine wa_iload_n dX6_receive_105 rfl ?_
          refine wa_iadd dX6_receive_106 ?_
          refine wa_iald _ dX6_receive_107 (by first | assumption | rfl) (by first | with_reducible rfl | with_reducible assumption | with_reducible exact ix_ma _ _ _ | with_reducible exact ix_maa _ _ _ _ | with_reducible exact ix_a _ _ | with_reducible exact ix_mama _ _ _ _ _) (by omega) ?_
          refine wa_goto 112 dX6_receive_108 (by decide) ?_
          refine wa_iast _ dX6_receive_112 (by first | assumption | rfl) (by first | with_reducible rfl | with_reducible assumption | with_reducible exact ix_ma _ _ _ | with_reducible exact ix_maa _ _ _ _ | with_reducible exact ix_a _ _ | with_reducible exact ix_mama _ _ _ _ _) (by omega) ?_
          refine wa_aload_n dX6_receive_113 rfl ?_
          refine wa_getR dX6_receive_114 fgX6_23 (by first | assumption | rfl) (by rfl) ?_
          refine wa_bipush (nI 64) dX6_receive_117 (by decide) ?_
          refine wa_iload_n dX6_receive_119 rfl ?_
          refine wa_imul dX6_receive_120 ?_
          refine wa_iload_n dX6_receive_121 rfl ?_
          refine wa_iadd dX6_receive_122 ?_
          refine wa_iload dX6_receive_123 rfl ?_
          refine wa_if_eqF 141 dX6_receive_125 (by decide) (by decide) ?_
          refine wa_aload_n dX6_receive_128 rfl ?_
          refine wa_getR dX6_receive_129 fgX6_23 (by first | assumption | rfl) (by rfl) ?_
          refine wa_sipush (nI 512) dX6_receive_132 (by decide) ?_
          refine wa_iload_n dX6_receive_135 rfl ?_
          refine wa_iadd dX6_receive_136 ?_
          refine wa_iald _ dX6_receive_137 (by first | assumption | rfl) (by first | with_reducible rfl | with_reducible assumption | with_reducible exact ix_ma _ _ _ | with_reducible exact ix_maa _ _ _ _ | with_reducible exact ix_a _ _ | with_reducible exact ix_mama _ _ _ _ _) (by omega) ?_
          refine wa_goto 142 dX6_receive_138 (by decide) ?_
          refine wa_iast _ dX6_receive_142 (by first | assumption | rfl) (by first | with_reducible rfl | with_reducible assumption | with_reducible exact ix_ma _ _ _ | with_reducible exact ix_maa _ _ _ _ | with_reducible exact ix_a _ _ | with_reducible exact ix_mama _ _ _ _ _) (by omega) ?_
          refine wa_iload_n dX6_receive_143 rfl ?_
          refine wa_aload_n dX6_receive_144 rfl ?_
          refine wa_getR dX6_receive_145 fgX6_20 (by first | assumption | rfl) (by rfl) ?_
          refine wa_bipush (nI 64) dX6_receive_148 (by decide) ?_
          refine wa_iload_n dX6_receive_150 rfl ?_
          refine wa_imul dX6_receive_151 ?_
          refine wa_iload_n dX6_receive_152 rfl ?_
          refine wa_iadd dX6_receive_153 ?_
          refine wa_iald _ dX6_receive_154 (by first | assumption | rfl) (by first | with_reducible rfl | with_reducible assumption | with_reducible exact ix_ma _ _ _ | with_reducible exact ix_maa _ _ _ _ | with_reducible exact ix_a _ _ | with_reducible exact ix_mama _ _ _ _ _) (by omega) ?_
          refine wa_if_ne 162 dX6_receive_155 (by decide) (fun c155_2 => ?_) (fun c155_2 => ?_)
          · try simp (disch := omega) only [nI_toInt, Int32.toInt_toInt64, not_true_eq_false, sI_off, r1e, w77] at c155_2
            try (exfalso; omega)
            all_goals
              skip
              refine wa_iconst (nI 0) dX6_receive_162 (by decide) ?_
              refine wa_iadd dX6_receive_163 ?_
              refine wa_istore_n dX6_receive_164 (by decide) ?_
              refine wa_iinc (nI 1) dX6_receive_165 rfl (by decide) (by decide) ?_
              refine wa_goto 62 dX6_receive_168 (by decide) ?_
              rw [cntN] at e_
              first | rw [if_pos (by first | (rw [hSi_]; done) | (rw [hSi_]; omega))] at e_ | rw [if_neg (by rw [hSi_]; omega)] at e_
              rw [rwI_2p _ S_ V_ _ _ rfl (by first | exact w77.trans hSi_.symm | exact hSi_.symm) (by first | exact (w78 _).trans hVi_.symm | exact hVi_.symm)]
              simp only [nI_add]
              exact e_ _
          · try simp (disch := omega) only [nI_toInt, Int32.toInt_toInt64, not_true_eq_false, sI_off, r1e, w77] at c155_2
            try (exfalso; omega)
            all_goals
              skip
              refine wa_iconst (nI 1) dX6_receive_158 (by decide) ?_
              refine wa_goto 163 dX6_receive_159 (by decide) ?_
              refine wa_iadd dX6_receive_163 ?_
              refine wa_istore_n dX6_receive_164 (by decide) ?_
              refine wa_iinc (nI 1) dX6_receive_165 rfl (by decide) (by decide) ?_
              refine wa_goto 62 dX6_receive_168 (by decide) ?_
              rw [cntN] at e_
              first | rw [if_pos (by first | (rw [hSi_]; done) | (rw [hSi_]; omega))] at e_ | rw [if_neg (by rw [hSi_]; omega)] at e_
              rw [rwI_2p _ S_ V_ _ _ rfl (by first | exact w77.trans hSi_.symm | exact hSi_.symm) (by first | exact (w78 _).trans hVi_.symm | exact hVi_.symm)]
              simp only [nI_add]
              exact e_ _
      · skip
        rw [e82] at hc_; obtain ⟨hSi_, hVi_⟩ := hF_ hc_
        try (exfalso; omega)
        all_goals
          skip
          refine wa_istore dX6_receive_81 (by decide) ?_
          refine wa_aload_n dX6_receive_83 rfl ?_
          refine wa_getR dX6_receive_84 fgX6_20 (by first | assumption | rfl) (by rfl) ?_
          refine wa_bipush (nI 64) dX6_receive_87 (by decide) ?_
          refine wa_iload_n dX6_receive_89 rfl ?_
          refine wa_imul dX6_receive_90 ?_
          refine wa_iload_n dX6_receive_91 rfl ?_
          refine wa_iadd dX6_receive_92 ?_
          refine wa_iload dX6_receive_93 rfl ?_
          refine wa_if_eqT 111 dX6_receive_95 (by decide) (by decide) ?_
          refine wa_iconst (nI 0) dX6_receive_111 (by decide) ?_
          refine wa_iast _ dX6_receive_112 (by first | assumption | rfl) (by first | with_reducible rfl | with_reducible assumption | with_reducible exact ix_ma _ _ _ | with_reducible exact ix_maa _ _ _ _ | with_reducible exact ix_a _ _ | with_reducible exact ix_mama _ _ _ _ _) (by omega) ?_
          refine wa_aload_n dX6_receive_113 rfl ?_
          refine wa_getR dX6_receive_114 fgX6_23 (by first | assumption | rfl) (by rfl) ?_
          refine wa_bipush (nI 64) dX6_receive_117 (by decide) ?_
          refine wa_iload_n dX6_receive_119 rfl ?_
          refine wa_imul dX6_receive_120 ?_
          refine wa_iload_n dX6_receive_121 rfl ?_
          refine wa_iadd dX6_receive_122 ?_
          refine wa_iload dX6_receive_123 rfl ?_
          refine wa_if_eqT 141 dX6_receive_125 (by decide) (by decide) ?_
          refine wa_iconst (nI 0) dX6_receive_141 (by decide) ?_
          refine wa_iast _ dX6_receive_142 (by first | assumption | rfl) (by first | with_reducible rfl | with_reducible assumption | with_reducible exact ix_ma _ _ _ | with_reducible exact ix_maa _ _ _ _ | with_reducible exact ix_a _ _ | with_reducible exact ix_mama _ _ _ _ _) (by omega) ?_
          refine wa_iload_n dX6_receive_143 rfl ?_
          refine wa_aload_n dX6_receive_144 rfl ?_
          refine wa_getR dX6_receive_145 fgX6_20 (by first | assumption | rfl) (by rfl) ?_
          refine wa_bipush (nI 64) dX6_receive_148 (by decide) ?_
          refine wa_iload_n dX6_receive_150 rfl ?_
          refine wa_imul dX6_receive_151 ?_
          refine wa_iload_n dX6_receive_152 rfl ?_
          refine wa_iadd dX6_receive_153 ?_
          refine wa_iald _ dX6_receive_154 (by first | assumption | rfl) (by first | with_reducible rfl | with_reducible assumption | with_reducible exact ix_ma _ _ _ | with_reducible exact ix_maa _ _ _ _ | with_reducible exact ix_a _ _ | with_reducible exact ix_mama _ _ _ _ _) (by omega) ?_
          refine wa_if_ne 162 dX6_receive_155 (by decide) (fun c155_3 => ?_) (fun c155_3 => ?_)
          · try simp (disch := omega) only [nI_toInt, Int32.toInt_toInt64, not_true_eq_false, sI_off, r1e, w77] at c155_3
            try (exfalso; omega)
            all_goals
              skip
              refine wa_iconst (nI 0) dX6_receive_162 (by decide) ?_
              refine wa_iadd dX6_receive_163 ?_
              refine wa_istore_n dX6_receive_164 (by decide) ?_
              refine wa_iinc (nI 1) dX6_receive_165 rfl (by decide) (by decide) ?_
              refine wa_goto 62 dX6_receive_168 (by decide) ?_
              rw [cntN] at e_
              first | rw [if_pos (by first | (rw [hSi_]; done) | (rw [hSi_]; omega))] at e_ | rw [if_neg (by rw [hSi_]; omega)] at e_
              rw [rwI_2p _ S_ V_ _ _ rfl (by first | exact w77.trans hSi_.symm | exact hSi_.symm) (by first | exact (w78 _).trans hVi_.symm | exact hVi_.symm)]
              simp only [nI_add]
              exact e_ _
          · try simp (disch := omega) only [nI_toInt, Int32.toInt_toInt64, not_true_eq_false, sI_off, r1e, w77] at c155_3
            try (exfalso; omega)
            all_goals
              skip
              refine wa_iconst (nI 1) dX6_receive_158 (by decide) ?_
              refine wa_goto 163 dX6_receive_159 (by decide) ?_
              refine wa_iadd dX6_receive_163 ?_
              refine wa_istore_n dX6_receive_164 (by decide) ?_
              refine wa_iinc (nI 1) dX6_receive_165 rfl (by decide) (by decide) ?_
              refine wa_goto 62 dX6_receive_168 (by decide) ?_
              rw [cntN] at e_
              first | rw [if_pos (by first | (rw [hSi_]; done) | (rw [hSi_]; omega))] at e_ | rw [if_neg (by rw [hSi_]; omega)] at e_
              rw [rwI_2p _ S_ V_ _ _ rfl (by first | exact w77.trans hSi_.symm | exact hSi_.symm) (by first | exact (w78 _).trans hVi_.symm | exact hVi_.symm)]
              simp only [nI_add]
              exact e_ _
  have e0 := loop n 0 (by omega) none
  have e1 := rwI_00 (rvMem μ j n) S_ V_ j
  have e2 : (rvMem μ j n).1 77 = μ.1 77 := by unfold rvMem; simp (disch := omega) only [sI_off, bI_off, sL_off, bL_off, r1l, r2l, rb1l, rb2l, r1m, r2m, rb1e, rb2e, r1e, r2e]
  have e3 : (rvMem μ j n).1 78 = μ.1 78 := by unfold rvMem; simp (disch := omega) only [sI_off, bI_off, sL_off, bL_off, r1l, r2l, rb1l, rb2l, r1m, r2m, rb1e, rb2e, r1e, r2e]
  rw [e2, e3] at e1
  rw [e1] at e0
  unfold rvMem at e0
  refine wa_aload_n dX6_receive_25 rfl ?_
  refine wa_getR dX6_receive_26 fgX6_7 (by first | assumption | rfl) (by rfl) ?_
  refine wa_iload_n dX6_receive_29 rfl ?_
  refine wa_iconst (nI 1) dX6_receive_30 (by decide) ?_
  refine wa_zast _ dX6_receive_31 (by first | assumption | rfl) (by first | with_reducible rfl | with_reducible assumption | with_reducible exact ix_ma _ _ _ | with_reducible exact ix_maa _ _ _ _ | with_reducible exact ix_a _ _ | with_reducible exact ix_mama _ _ _ _ _) (by omega) (Or.inr rfl) ?_
  refine wa_aload_n dX6_receive_32 rfl ?_
  refine wa_getR dX6_receive_33 fgX6_13 (by first | assumption | rfl) (by rfl) ?_
  refine wa_iload_n dX6_receive_36 rfl ?_
  refine wa_aload_n dX6_receive_37 rfl ?_
  refine wa_getR dX6_receive_38 fgX6_13 (by first | assumption | rfl) (by rfl) ?_
  refine wa_bipush (nI 8) dX6_receive_41 (by decide) ?_
  refine wa_iald _ dX6_receive_43 (by first | assumption | rfl) (by first | with_reducible rfl | with_reducible assumption | with_reducible exact ix_ma _ _ _ | with_reducible exact ix_maa _ _ _ _ | with_reducible exact ix_a _ _ | with_reducible exact ix_mama _ _ _ _ _) (by omega) ?_
  refine wa_iast _ dX6_receive_44 (by first | assumption | rfl) (by first | with_reducible rfl | with_reducible assumption | with_reducible exact ix_ma _ _ _ | with_reducible exact ix_maa _ _ _ _ | with_reducible exact ix_a _ _ | with_reducible exact ix_mama _ _ _ _ _) (by omega) ?_
  refine wa_aload_n dX6_receive_45 rfl ?_
  refine wa_getR dX6_receive_46 fgX6_17 (by first | assumption | rfl) (by rfl) ?_
  refine wa_iload_n dX6_receive_49 rfl ?_
  refine wa_aload_n dX6_receive_50 rfl ?_
  refine wa_getR dX6_receive_51 fgX6_17 (by first | assumption | rfl) (by rfl) ?_
  refine wa_bipush (nI 8) dX6_receive_54 (by decide) ?_
  refine wa_iald _ dX6_receive_56 (by first | assumption | rfl) (by first | with_reducible rfl | with_reducible assumption | with_reducible exact ix_ma _ _ _ | with_reducible exact ix_maa _ _ _ _ | with_reducible exact ix_a _ _ | with_reducible exact ix_mama _ _ _ _ _) (by omega) ?_
  refine wa_iast _ dX6_receive_57 (by first | assumption | rfl) (by first | with_reducible rfl | with_reducible assumption | with_reducible exact ix_ma _ _ _ | with_reducible exact ix_maa _ _ _ _ | with_reducible exact ix_a _ _ | with_reducible exact ix_mama _ _ _ _ _) (by omega) ?_
  refine wa_iconst (nI 0) dX6_receive_58 (by decide) ?_
  refine wa_istore_n dX6_receive_59 (by decide) ?_
  refine wa_iconst (nI 0) dX6_receive_60 (by decide) ?_
  refine wa_istore_n dX6_receive_61 (by decide) ?_
  simp (disch := omega) only [sI_off, r1m]
  rw [hn]
  exact e0
theorem comP_c {f g : Nat → Int32} {n j : Nat} (hn : n ≤ 64) (hj : j < spN n) (h : ∀ p, p < pkN n → f p = g p) : comP f n j = comP g n j := by
  have hb : ∀ a m, lbF f (spN n) a m = lbF g (spN n) a m := by
    intro a m
    induction m with
    | zero => rfl
    | succ m ih =>
      rw [lbF, lbF, ih]
      congr 1
      by_cases ha : a + m < spN n
      · rw [h (a + m) (by unfold pkN; omega)]
      · rw [if_neg (fun q => ha q.1), if_neg (fun q => ha q.1)]
  rw [comP, comP, h j (by unfold pkN; omega), h (spN n + j / 4) (by unfold pkN; omega), hb]
