/-! PAIRS: receive -/
def rcF (c : Nat → Bool) (f : Nat → Int32) (i : Nat) : Int32 := if c i = true then f (512 + i) else nI 0
def rvMem (μ : Mem) (j n : Nat) : Mem := sI (sI (sI μ 74 j (nI 1)) 75 j (μ.1 75 8)) 76 j (nI n)
theorem wa_receive {d j n : Nat} {μ : Mem} {Q : QM} (hj : j < 8) (hn : μ.1 76 8 = nI n) (hn64 : n ≤ 64) (hd : 1 ≤ d) (hQ : Q (some (.int (nI (cntN (rcF (fun i => comP (μ.1 82) n (i / 8)) (μ.1 77)) (nI 0) n)))) (bI (bI (rvMem μ j n) 77 (rwI (rcF (fun i => comP (μ.1 82) n (i / 8)) (μ.1 77)) (μ.1 77) j n)) 78 (rwI (rcF (fun i => comP (μ.1 82) n (i / 8)) (μ.1 78)) (μ.1 78) j n))) : WA kX6_receive d Q 25 [some (.ref 73), some (.int (nI j)), none, none, none] [] μ := by
  generalize hS_ : rcF (fun i => comP (μ.1 82) n (i / 8)) (μ.1 77) = S_ at hQ
  generalize hV_ : rcF (fun i => comP (μ.1 82) n (i / 8)) (μ.1 78) = V_ at hQ
  have en : ∀ A B, (bI (bI (rvMem μ j n) 77 A) 78 B).1 76 8 = nI n := fun A B => by
    unfold rvMem
    simp (disch := omega) only [bI_off, sI_off, r1m]
    exact hn
  have e82 : ∀ A B, (bI (bI (rvMem μ j n) 77 A) 78 B).1 82 = μ.1 82 := fun A B => by
    unfold rvMem
    simp (disch := omega) only [bI_off, sI_off]
  have loop : ∀ m i, i + m = n → ∀ z, WA kX6_receive d Q 62 [some (.ref 73), some (.int (nI j)), some (.int (nI (cntN S_ (nI 0) i))), some (.int (nI i)), z] [] (bI (bI (rvMem μ j n) 77 (rwI S_ (μ.1 77) j i)) 78 (rwI V_ (μ.1 78) j i)) := by
    intro m
    induction m with
    | zero =>
      intro i hi z
      obtain rfl : i = n := by omega
      refine wa_iload_n dX6_receive_62 rfl ?_
      refine wa_aload_n dX6_receive_63 rfl ?_
      refine wa_getR dX6_receive_64 fgX6_17 (by first | assumption | rfl) (by rfl) ?_
      refine wa_bipush (nI 8) dX6_receive_67 (by decide) ?_
      refine wa_iald _ dX6_receive_69 (by first | assumption | rfl) (by first | with_reducible rfl | with_reducible assumption | with_reducible exact ix_ma _ _ _ | with_reducible exact ix_maa _ _ _ _ | with_reducible exact ix_a _ _ | with_reducible exact ix_mama _ _ _ _ _) (by omega) ?_
      refine wa_ic_geT 171 dX6_receive_70 (by decide) (by rw [en]; exact le_nI (by omega) (by omega)) ?_
      refine wa_iload_n dX6_receive_171 rfl ?_
      refine wa_iret dX6_receive_172 rfl ?_
      exact hQ
    | succ m ih =>
      intro i hi z
      have e_ := ih (i + 1) (by omega)
      have w77 : (bI (bI (rvMem μ j n) 77 (rwI S_ (μ.1 77) j i)) 78 (rwI V_ (μ.1 78) j i)).1 77 (512 + i) = μ.1 77 (512 + i) := by
        simp (disch := omega) only [bI_off, rb1e, rwI_no]
      have w78 : ∀ x, (sI (bI (bI (rvMem μ j n) 77 (rwI S_ (μ.1 77) j i)) 78 (rwI V_ (μ.1 78) j i)) 77 (64 * j + i) x).1 78 (512 + i) = μ.1 78 (512 + i) := fun x => by
        simp (disch := omega) only [sI_off, bI_off, rb1e, rwI_no]
      have hT_ : comP (μ.1 82) n (i / 8) = true → S_ i = μ.1 77 (512 + i) ∧ V_ i = μ.1 78 (512 + i) := fun q => by
        rw [← hS_, ← hV_, rcF, rcF, if_pos q, if_pos q]
        exact ⟨rfl, rfl⟩
      have hF_ : comP (μ.1 82) n (i / 8) = false → S_ i = nI 0 ∧ V_ i = nI 0 := fun q => by
        rw [← hS_, ← hV_, rcF, rcF, if_neg (by rw [q]; decide), if_neg (by rw [q]; decide)]
        exact ⟨rfl, rfl⟩
      have z0_ := nI_0z
      refine wa_iload_n dX6_receive_62 rfl ?_
      refine wa_aload_n dX6_receive_63 rfl ?_
      refine wa_getR dX6_receive_64 fgX6_17 (by first | assumption | rfl) (by rfl) ?_
      refine wa_bipush (nI 8) dX6_receive_67 (by decide) ?_
      refine wa_iald _ dX6_receive_69 (by first | assumption | rfl) (by first | with_reducible rfl | with_reducible assumption | with_reducible exact ix_ma _ _ _ | with_reducible exact ix_maa _ _ _ _ | with_reducible exact ix_a _ _ | with_reducible exact ix_mama _ _ _ _ _) (by omega) ?_
      refine wa_ic_geF 171 dX6_receive_70 (by decide) (by rw [en]; exact nle_nI (by omega) (by omega)) ?_
      refine wa_aload_n dX6_receive_73 rfl ?_
      refine wa_iload_n dX6_receive_74 rfl ?_
      refine wa_bipush (nI 8) dX6_receive_75 (by decide) ?_
      refine wa_idiv dX6_receive_77 (by decide) ?_
      refine wa_callV1 (k' := kX6_comes) (d' := 0) dX6_receive_78 lmX6_186 kvX6_comes (by first | assumption | rfl) (by rfl) (by decide) (by omega) (Nat.le_of_ble_eq_true rfl) ?_
      refine wp_X6_comes (n := n) (j := i / 8) (pk_div (by omega) (by omega) (by omega)) (en _ _) hn64 (by unfold spN; omega) (fun hc_ => ?_) (fun hc_ => ?_)
      · skip
        rw [e82] at hc_; obtain ⟨hSi_, hVi_⟩ := hT_ hc_
        try (exfalso; omega)
        all_goals
          skip
          refine wa_istore dX6_receive_81 (by decide) ?_
          refine wa_aload_n dX6_receive_83 rfl ?_
          refine wa_getR dX6_receive_84 fgX6_20 (by first | assumption | rfl) (by rfl) ?_
          refine wa_bipush (nI 64) dX6_receive_87 (by decide) ?_
          refine wa_iload_n dX6_receive_89 rfl ?_
          refine wa_imul dX6_receive_90 ?_
          refine wa_iload_n dX6_receive_91 rfl ?_
          refine wa_iadd dX6_receive_92 ?_
          refine wa_iload dX6_receive_93 rfl ?_
          refine wa_if_eqF 111 dX6_receive_95 (by decide) (by decide) ?_
          refine wa_aload_n dX6_receive_98 rfl ?_
          refine wa_getR dX6_receive_99 fgX6_20 (by first | assumption | rfl) (by rfl) ?_
          refine wa_sipush (nI 512) dX6_receive_102 (by decide) ?_
          refine wa_iload_n dX6_receive_105 rfl ?_
          refine wa_iadd dX6_receive_106 ?_
          refine wa_iald _ dX6_receive_107 (by first | assumption | rfl) (by first | with_reducible rfl | with_reducible assumption | with_reducible exact ix_ma _ _ _ | with_reducible exact ix_maa _ _ _ _ | with_reducible exact ix_a _ _ | with_reducible exact ix_mama _ _ _ _ _) (by omega) ?_
          refine wa_goto 112 dX6_receive_108 (by decide) ?_
          refine wa_iast _ dX6_receive_112 (by first | assumption | rfl) (by first | with_reducible rfl | with_reducible assumption | with_reducible exact ix_ma _ _ _ | with_reducible exact ix_maa _ _ _ _ | with_reducible exact ix_a _ _ | with_reducible exact ix_mama _ _ _ _ _) (by omega) ?_
          refine wa_aload_n dX6_receive_113 rfl ?_
          refine wa_getR dX6_receive_114 fgX6_23 (by first | assumption | rfl) (by rfl) ?_
          refine wa_bipush (nI 64) dX6_receive_117 (by decide) ?_
          refine wa_iload_n dX6_receive_119 rfl ?_
          refine wa_imul dX6_receive_120 ?_
          refine wa_iload_n dX6_receive_121 rfl ?_
          refine wa_iadd dX6_receive_122 ?_
          refine wa_iload dX6_receive_123 rfl ?_
          refine wa_if_eqF 141 dX6_receive_125 (by decide) (by decide) ?_
          refine wa_aload_n dX6_receive_128 rfl ?_
          refine wa_getR dX6_receive_129 fgX6_23 (by first | assumption | rfl) (by rfl) ?_
          refine wa_sipush (nI 512) dX6_receive_132 (by decide) ?_
          refine wa_iload_n dX6_receive_135 rfl ?_
          refine wa_iadd dX6_receive_136 ?_
          refine wa_iald _ dX6_receive_137 (by first | assumption | rfl) (by first | with_reducible rfl | with_reducible assumption | with_reducible exact ix_ma _ _ _ | with_reducible exact ix_maa _ _ _ _ | with_reducible exact ix_a _ _ | with_reducible exact ix_mama _ _ _ _ _) (by omega) ?_
          refine wa_goto 142 dX6_receive_138 (by decide) ?_
          refine wa_iast _ dX6_receive_142 (by first | assumption | rfl) (by first | with_reducible rfl | with_reducible assumption | with_reducible exact ix_ma _ _ _ | with_reducible exact ix_maa _ _ _ _ | with_reducible exact ix_a _ _ | with_reducible exact ix_mama _ _ _ _ _) (by omega) ?_
          refine wa_iload_n dX6_receive_143 rfl ?_
          refine wa_aload_n dX6_receive_144 rfl ?_
          refine wa_getR dX6_receive_145 fgX6_20 (by first | assumption | rfl) (by rfl) ?_
          refine wa_bipush (nI 64) dX6_receive_148 (by decide) ?_
          refine wa_iload_n dX6_receive_150 rfl ?_
          refine wa_imul dX6_receive_151 ?_
          refine wa_iload_n dX6_receive_152 rfl ?_
          refine wa_iadd dX6_receive_153 ?_
          refine wa_iald _ dX6_receive_154 (by first | assumption | rfl) (by first | with_reducible rfl | with_reducible assumption | with_reducible exact ix_ma _ _ _ | with_reducible exact ix_maa _ _ _ _ | with_reducible exact ix_a _ _ | with_reducible exact ix_mama _ _ _ _ _) (by omega) ?_
          refine wa_if_ne 162 dX6_receive_155 (by decide) (fun c155_2 => ?_) (fun c155_2 => ?_)
          · try simp (disch := omega) only [nI_toInt, Int32.toInt_toInt64, not_true_eq_false, sI_off, r1e, w77] at c155_2
            try (exfalso; omega)
            all_goals
              skip
              refine wa_iconst (nI 0) dX6_receive_162 (by decide) ?_
              refine wa_iadd dX6_receive_163 ?_
              refine wa_istore_n dX6_receive_164 (by decide) ?_
              refine wa_iinc (nI 1) dX6_receive_165 rfl (by decide) (by decide) ?_
              refine wa_goto 62 dX6_receive_168 (by decide) ?_
              rw [cntN] at e_
              first | rw [if_pos (by first | (rw [hSi_]; done) | (rw [hSi_]; omega))] at e_ | rw [if_neg (by rw [hSi_]; omega)] at e_
              rw [rwI_2p _ S_ V_ _ _ rfl (by first | exact w77.trans hSi_.symm | exact hSi_.symm) (by first | exact (w78 _).trans hVi_.symm | exact hVi_.symm)]
              simp only [nI_add]
              exact e_ _
          · try simp (disch := omega) only [nI_toInt, Int32.toInt_toInt64, not_true_eq_false, sI_off, r1e, w77] at c155_2
            try (exfalso; omega)
            all_goals
              skip
              refine wa_iconst (nI 1) dX6_receive_158 (by decide) ?_
              refine wa_goto 163 dX6_receive_159 (by decide) ?_
              refine wa_iadd dX6_receive_163 ?_
              refine wa_istore_n dX6_receive_164 (by decide) ?_
              refine wa_iinc (nI 1) dX6_receive_165 rfl (by decide) (by decide) ?_
              refine wa_goto 62 dX6_receive_168 (by decide) ?_
              rw [cntN] at e_
              first | rw [if_pos (by first | (rw [hSi_]; done) | (rw [hSi_]; omega))] at e_ | rw [if_neg (by rw [hSi_]; omega)] at e_
              rw [rwI_2p _ S_ V_ _ _ rfl (by first | exact w77.trans hSi_.symm | exact hSi_.symm) (by first | exact (w78 _).trans hVi_.symm | exact hVi_.symm)]
              simp only [nI_add]
              exact e_ _
      · skip
        rw [e82] at hc_; obtain ⟨hSi_, hVi_⟩ := hF_ hc_
        try (exfalso; omega)
        all_goals
          skip
          refine wa_istore dX6_receive_81 (by decide) ?_
          refine wa_aload_n dX6_receive_83 rfl ?_
          refine wa_getR dX6_receive_84 fgX6_20 (by first | assumption | rfl) (by rfl) ?_
          refine wa_bipush (nI 64) dX6_receive_87 (by decide) ?_
          refine wa_iload_n dX6_receive_89 rfl ?_
          refine wa_imul dX6_receive_90 ?_
          refine wa_iload_n dX6_receive_91 rfl ?_
          refine wa_iadd dX6_receive_92 ?_
          refine wa_iload dX6_receive_93 rfl ?_
          refine wa_if_eqT 111 dX6_receive_95 (by decide) (by decide) ?_
          refine wa_iconst (nI 0) dX6_receive_111 (by decide) ?_
          refine wa_iast _ dX6_receive_112 (by first | assumption | rfl) (by first | with_reducible rfl | with_reducible assumption | with_reducible exact ix_ma _ _ _ | with_reducible exact ix_maa _ _ _ _ | with_reducible exact ix_a _ _ | with_reducible exact ix_mama _ _ _ _ _) (by omega) ?_
          refine wa_aload_n dX6_receive_113 rfl ?_
          refine wa_getR dX6_receive_114 fgX6_23 (by first | assumption | rfl) (by rfl) ?_
          refine wa_bipush (nI 64) dX6_receive_117 (by decide) ?_
          refine wa_iload_n dX6_receive_119 rfl ?_
          refine wa_imul dX6_receive_120 ?_
          refine wa_iload_n dX6_receive_121 rfl ?_
          refine wa_iadd dX6_receive_122 ?_
          refine wa_iload dX6_receive_123 rfl ?_
          refine wa_if_eqT 141 dX6_receive_125 (by decide) (by decide) ?_
          refine wa_iconst (nI 0) dX6_receive_141 (by decide) ?_
          refine wa_iast _ dX6_receive_142 (by first | assumption | rfl) (by first | with_reducible rfl | with_reducible assumption | with_reducible exact ix_ma _ _ _ | with_reducible exact ix_maa _ _ _ _ | with_reducible exact ix_a _ _ | with_reducible exact ix_mama _ _ _ _ _) (by omega) ?_
          refine wa_iload_n dX6_receive_143 rfl ?_
          refine wa_aload_n dX6_receive_144 rfl ?_
          refine wa_getR dX6_receive_145 fgX6_20 (by first | assumption | rfl) (by rfl) ?_
          refine wa_bipush (nI 64) dX6_receive_148 (by decide) ?_
          refine wa_iload_n dX6_receive_150 rfl ?_
          refine wa_imul dX6_receive_151 ?_
          refine wa_iload_n dX6_receive_152 rfl ?_
          refine wa_iadd dX6_receive_153 ?_
          refine wa_iald _ dX6_receive_154 (by first | assumption | rfl) (by first | with_reducible rfl | with_reducible assumption | with_reducible exact ix_ma _ _ _ | with_reducible exact ix_maa _ _ _ _ | with_reducible exact ix_a _ _ | with_reducible exact ix_mama _ _ _ _ _) (by omega) ?_
          refine wa_if_ne 162 dX6_receive_155 (by decide) (fun c155_3 => ?_) (fun c155_3 => ?_)
          · try simp (disch := omega) only [nI_toInt, Int32.toInt_toInt64, not_true_eq_false, sI_off, r1e, w77] at c155_3
            try (exfalso; omega)
            all_goals
              skip
              refine wa_iconst (nI 0) dX6_receive_162 (by decide) ?_
              refine wa_iadd dX6_receive_163 ?_
              refine wa_istore_n dX6_receive_164 (by decide) ?_
              refine wa_iinc (nI 1) dX6_receive_165 rfl (by decide) (by decide) ?_
              refine wa_goto 62 dX6_receive_168 (by decide) ?_
              rw [cntN] at e_
              first | rw [if_pos (by first | (rw [hSi_]; done) | (rw [hSi_]; omega))] at e_ | rw [if_neg (by rw [hSi_]; omega)] at e_
              rw [rwI_2p _ S_ V_ _ _ rfl (by first | exact w77.trans hSi_.symm | exact hSi_.symm) (by first | exact (w78 _).trans hVi_.symm | exact hVi_.symm)]
              simp only [nI_add]
              exact e_ _
          · try simp (disch := omega) only [nI_toInt, Int32.toInt_toInt64, not_true_eq_false, sI_off, r1e, w77] at c155_3
            try (exfalso; omega)
            all_goals
              skip
              refine wa_iconst (nI 1) dX6_receive_158 (by decide) ?_
              refine wa_goto 163 dX6_receive_159 (by decide) ?_
              refine wa_iadd dX6_receive_163 ?_
              refine wa_istore_n dX6_receive_164 (by decide) ?_
              refine wa_iinc (nI 1) dX6_receive_165 rfl (by decide) (by decide) ?_
              refine wa_goto 62 dX6_receive_168 (by decide) ?_
              rw [cntN] at e_
              first | rw [if_pos (by first | (rw [hSi_]; done) | (rw [hSi_]; omega))] at e_ | rw [if_neg (by rw [hSi_]; omega)] at e_
              rw [rwI_2p _ S_ V_ _ _ rfl (by first | exact w77.trans hSi_.symm | exact hSi_.symm) (by first | exact (w78 _).trans hVi_.symm | exact hVi_.symm)]
              simp only [nI_add]
              exact e_ _
  have e0 := loop n 0 (by omega) none
  have e1 := rwI_00 (rvMem μ j n) S_ V_ j
  have e2 : (rvMem μ j n).1 77 = μ.1 77 := by unfold rvMem; simp (disch := omega) only [sI_off, bI_off, sL_off, bL_off, r1l, r2l, rb1l, rb2l, r1m, r2m, rb1e, rb2e, r1e, r2e]
  have e3 : (rvMem μ j n).1 78 = μ.1 78 := by unfold rvMem; simp (disch := omega) only [sI_off, bI_off, sL_off, bL_off, r1l, r2l, rb1l, rb2l, r1m, r2m, rb1e, rb2e, r1e, r2e]
  rw [e2, e3] at e1
  rw [e1] at e0
  unfold rvMem at e0
  refine wa_aload_n dX6_receive_25 rfl ?_
  refine wa_getR dX6_receive_26 fgX6_7 (by first | assumption | rfl) (by rfl) ?_
  refine wa_iload_n dX6_receive_29 rfl ?_
  refine wa_iconst (nI 1) dX6_receive_30 (by decide) ?_
  refine wa_zast _ dX6_receive_31 (by first | assumption | rfl) (by first | with_reducible rfl | with_reducible assumption | with_reducible exact ix_ma _ _ _ | with_reducible exact ix_maa _ _ _ _ | with_reducible exact ix_a _ _ | with_reducible exact ix_mama _ _ _ _ _) (by omega) (Or.inr rfl) ?_
  refine wa_aload_n dX6_receive_32 rfl ?_
  refine wa_getR dX6_receive_33 fgX6_13 (by first | assumption | rfl) (by rfl) ?_
  refine wa_iload_n dX6_receive_36 rfl ?_
  refine wa_aload_n dX6_receive_37 rfl ?_
  refine wa_getR dX6_receive_38 fgX6_13 (by first | assumption | rfl) (by rfl) ?_
  refine wa_bipush (nI 8) dX6_receive_41 (by decide) ?_
  refine wa_iald _ dX6_receive_43 (by first | assumption | rfl) (by first | with_reducible rfl | with_reducible assumption | with_reducible exact ix_ma _ _ _ | with_reducible exact ix_maa _ _ _ _ | with_reducible exact ix_a _ _ | with_reducible exact ix_mama _ _ _ _ _) (by omega) ?_
  refine wa_iast _ dX6_receive_44 (by first | assumption | rfl) (by first | with_reducible rfl | with_reducible assumption | with_reducible exact ix_ma _ _ _ | with_reducible exact ix_maa _ _ _ _ | with_reducible exact ix_a _ _ | with_reducible exact ix_mama _ _ _ _ _) (by omega) ?_
  refine wa_aload_n dX6_receive_45 rfl ?_
  refine wa_getR dX6_receive_46 fgX6_17 (by first | assumption | rfl) (by rfl) ?_
  refine wa_iload_n dX6_receive_49 rfl ?_
  refine wa_aload_n dX6_receive_50 rfl ?_
  refine wa_getR dX6_receive_51 fgX6_17 (by first | assumption | rfl) (by rfl) ?_
  refine wa_bipush (nI 8) dX6_receive_54 (by decide) ?_
  refine wa_iald _ dX6_receive_56 (by first | assumption | rfl) (by first | with_reducible rfl | with_reducible assumption | with_reducible exact ix_ma _ _ _ | with_reducible exact ix_maa _ _ _ _ | with_reducible exact ix_a _ _ | with_reducible exact ix_mama _ _ _ _ _) (by omega) ?_
  refine wa_iast _ dX6_receive_57 (by first | assumption | rfl) (by first | with_reducible rfl | with_reducible assumption | with_reducible exact ix_ma _ _ _ | with_reducible exact ix_maa _ _ _ _ | with_reducible exact ix_a _ _ | with_reducible exact ix_mama _ _ _ _ _) (by omega) ?_
  refine wa_iconst (nI 0) dX6_receive_58 (by decide) ?_
  refine wa_istore_n dX6_receive_59 (by decide) ?_
  refine wa_iconst (nI 0) dX6_receive_60 (by decide) ?_
  refine wa_istore_n dX6_receive_61 (by decide) ?_
  simp (disch := omega) only [sI_off, r1m]
  rw [hn]
  exact e0
theorem comP_c {f g : Nat → Int32} {n j : Nat} (hn : n ≤ 64) (hj : j < spN n) (h : ∀ p, p < pkN n → f p = g p) : comP f n j = comP g n j := by
  have hb : ∀ a m, lbF f (spN n) a m = lbF g (spN n) a m := by
    intro a m
    induction m with
    | zero => rfl
    | succ m ih =>
      rw [lbF, lbF, ih]
      congr 1
      by_cases ha : a + m < spN n
      · rw [h (a + m) (by unfold pkN; omega)]
      · rw [if_neg (fun q => ha q.1), if_neg (fun q => ha q.1)]
  rw [comP, comP, h j (by unfold pkN; omega), h (spN n + j / 4) (by unfold pkN; omega), hb]
theorem rcF_t {c : Nat → Bool} {f : Nat → Int32} {i : Nat} (h : c i = true) : rcF c f i = f (512 + i) := by
  rw [rcF, if_pos h]
theorem rcF_f {c : Nat → Bool} {f : Nat → Int32} {i : Nat} (h : c i = false) : rcF c f i = nI 0 := by
  rw [rcF, if_neg (by rw [h]; decide)]
theorem pr_receive (k : Int32) : PR kX5_receive kX6_receive [.int k] := by
  intro N μ d c hd hc hN hrel
  obtain ⟨n_, k1_, k2_, k3_, k4_, k0_, k5_, k6_, k7_, k8_⟩ := hrel.2.2.1
  obtain ⟨m_, y1_, y2_, y3_, y4_, _, y6_, y7_, y8_, y9_, y10_⟩ := hrel.1 8 (by omega)
  obtain rfl : m_ = n_ := nI_eq3 (y3_.symm.trans k1_) (by omega) (by omega)
  refine MW_of (by decide) [some (.ref 0), some (.int k)] rfl (Nat.le_of_ble_eq_true rfl) ?_
  refine wa_iload_n dX5_receive_0 rfl ?_
  refine wa_callS1 (k' := kX5_isSheet) (d' := 0) dX5_receive_1 lmX5_44 ksX5_isSheet (by decide) (by omega) (Nat.le_of_ble_eq_true rfl) ?_
  refine wp_X5_isSheet (fun j_ hj_ hk_ => ?_) (fun hoob => ?_)
  · skip
    obtain ⟨z_, s1_, s2_, s3_, s4_, s5_, s6_, s7_, s8_, s9_, s10_⟩ := hrel.1 j_ (by omega); have hS_ := isS_k (show j_ < 9 by omega); have hsh_ := (isS_sh hS_).1
    refine wa_if_neT 10 dX5_receive_4 (by decide) (by decide) ?_
    refine wa_aload_n dX5_receive_10 rfl ?_
    refine wa_getR dX5_receive_11 fgX5_26 (by first | assumption | rfl) (by rfl) ?_
    refine wa_callV0 (k' := kX1_wereSent) (d' := 1) dX5_receive_14 lmX5_209 kvX1_wereSent (by first | assumption | rfl) (by rfl) (by decide) (by omega) (Nat.le_of_ble_eq_true rfl) ?_
    refine wp_X1_wereSent (by omega) k3_ (fun h_ => ?_) (fun h_ => ?_)
    · skip
      refine wa_if_neT 23 dX5_receive_17 (by decide) (by decide) ?_
      refine wa_aload_n dX5_receive_23 rfl ?_
      refine wa_getR dX5_receive_24 fgX5_26 (by first | assumption | rfl) (by rfl) ?_
      refine wa_aload_n dX5_receive_27 rfl ?_
      refine wa_getR dX5_receive_28 fgX5_11 (by first | assumption | rfl) (by rfl) ?_
      refine wa_iload_n dX5_receive_31 rfl ?_
      refine wa_aalS _ dX5_receive_32 (by first | assumption | rfl) (by exact hk_) (by omega) ?_
      rw [show arf 1 j_ = 7 + 4 * j_ from rfl]
      refine wa_callV1 (k' := kX1_unload) (d' := 4) dX5_receive_33 lmX5_212 kvX1_unload (by first | assumption | rfl) (by rfl) (by decide) (by omega) (Nat.le_of_ble_eq_true rfl) ?_
      refine wp_X1_unload (n := m_) (by omega) hS_ (by omega) k1_ k2_ (fun ν_ v1_ v2_ v3_ v4_ v5_ v6_ v7_ => ?_)
      refine wa_aload_n dX5_receive_36 rfl ?_
      refine wa_getR dX5_receive_37 fgX5_11 (by first | assumption | rfl) (by rfl) ?_
      refine wa_iload_n dX5_receive_40 rfl ?_
      refine wa_aalS _ dX5_receive_41 (by first | assumption | rfl) (by exact hk_) (by omega) ?_
      rw [show arf 1 j_ = 7 + 4 * j_ from rfl]
      refine wa_callV0 (k' := kX3_lostSamples) (d' := 1) dX5_receive_42 lmX5_114 kvX3_lostSamples (by first | assumption | rfl) (by rfl) (by decide) (by omega) (Nat.le_of_ble_eq_true rfl) ?_
      refine wp_X3_lostSamples (n := m_) hS_ (by omega) v5_ k2_ ?_
      refine wa_iret dX5_receive_45 rfl ?_
      rw [hk_]
      have w82_ : ν_.1 82 = μ.1 82 := v2_ 82 (by omega) (by omega) (by omega)
      have w77_ : ν_.1 77 = μ.1 77 := v2_ 77 (by omega) (by omega) (by omega)
      have w78_ : ν_.1 78 = μ.1 78 := v2_ 78 (by omega) (by omega) (by omega)
      have cc_ : ∀ i, i < m_ → comP (ν_.1 82) m_ (i / 8) = comP (μ.1 6) m_ (i / 8) := fun i hi => by
        rw [w82_]
        exact comP_c k2_ (by unfold spN; omega) k6_
      have st_ : ∀ i, i < m_ → rcF (fun i => comP (ν_.1 82) m_ (i / 8)) (ν_.1 77) i = ν_.1 (7 + 4 * j_ + 2) i := fun i hi => by
        cases hcp_ : comP (μ.1 6) m_ (i / 8) with
        | true =>
          rw [rcF_t (by rw [← hcp_]; exact cc_ i hi), (v6_ i hi hcp_).2, w77_]
          exact y9_ i hi
        | false =>
          rw [rcF_f (by rw [← hcp_]; exact cc_ i hi), (v7_ i hi hcp_).2]
      refine MW_of (by decide) [some (.ref 73), some (.int (nI j_)), none, none, none] rfl (Nat.le_of_ble_eq_true rfl) ?_
      refine wa_iload_n dX6_receive_0 rfl ?_
      refine wa_i2l dX6_receive_1 ?_
      refine wa_lconst (0) dX6_receive_2 (by decide) ?_
      refine wa_ldc2 (7) dX6_receive_3 lcX6_58 ?_
      refine wa_callS3 (k' := kX6_in) (d' := 0) dX6_receive_6 lmX6_60 ksX6_in (by decide) (by omega) (Nat.le_of_ble_eq_true rfl) ?_
      refine in8_1 hj_ ?_
      refine wa_if_neT 15 dX6_receive_9 (by decide) (by decide) ?_
      refine wa_aload_n dX6_receive_15 rfl ?_
      refine wa_getI dX6_receive_16 fgX6_179 (by first | assumption | rfl) (by rfl) ?_
      refine wa_if_neT 25 dX6_receive_19 (by decide) (by rw [v2_ 73 (by omega) (by omega) (by omega), k4_, h_]; decide) ?_
      refine wa_receive (n := m_) hj_ (by rw [v2_ 76 (by omega) (by omega) (by omega)]; exact y7_) k2_ (by omega) ⟨by rw [cntN_c _ st_], ?_⟩
      unfold rvMem
      refine Rel_S (k := j_) (n := m_) hrel ?rels ?fs ?fr ?fp ?fw ?fm
      case fs =>
        intro j_ hj_ hjk_
        refine ⟨?_, ?_, ?_, ?_, ?_, ?_, fun i_ hi_ => ?_, fun i_ hi_ => ?_⟩
        all_goals
          simp (disch := omega) only [sI_off, bI_off, sL_off, bL_off, r1l, r2l, rb1l, rb2l, r1m, r2m, rb1e, rb2e,rwI_no,v1_,v2_]
      case fr =>
        intro r_ hr_
        refine ⟨?_, ?_, ?_, fun i_ hi_ => ?_⟩
        all_goals
          simp (disch := omega) only [sI_off, bI_off, sL_off, bL_off, r1l, r2l, rb1l, rb2l, r1m, r2m, rb1e, rb2e,rwI_no,v1_,v2_]
      case fp =>
        refine ⟨?_, ?_, ?_, ?_, ?_⟩
        all_goals
          simp (disch := omega) only [sI_off, bI_off, sL_off, bL_off, r1l, r2l, rb1l, rb2l, r1m, r2m, rb1e, rb2e,rwI_no,v1_,v2_]
      case fw =>
        refine ⟨?_, fun q_ ha_ hb_ => ?_⟩
        all_goals
          simp (disch := omega) only [sI_off, bI_off, sL_off, bL_off, r1l, r2l, rb1l, rb2l, r1m, r2m, rb1e, rb2e,rwI_no,v1_,v2_]
      case fm =>
        refine ⟨?_, ?_, fun q_ ha_ hb_ => ?_⟩
        all_goals
          simp (disch := omega) only [sI_off, bI_off, sL_off, bL_off, r1l, r2l, rb1l, rb2l, r1m, r2m, rb1e, rb2e,rwI_no,v1_,v2_]
      case rels =>
        refine ⟨Or.inr ?_, ?_, ?_, k2_, fun q_ => ?_, ?_, ?_, fun i_ hb_ hz_ => ?_, fun i_ hb_ => ?_, fun i_ hb_ => ?_⟩
        · simp (disch := omega) only [sI_off, bI_off, sL_off, bL_off, r1l, r2l, rb1l, rb2l, r1m, r2m, rb1e, rb2e, r1e, r2e]; exact v3_
        · simp (disch := omega) only [sI_off, bI_off, sL_off, bL_off, r1l, r2l, rb1l, rb2l, r1m, r2m, rb1e, rb2e, r1e, r2e]
          rw [v4_]; exact y2_
        · simp (disch := omega) only [sI_off, bI_off, sL_off, bL_off, r1l, r2l, rb1l, rb2l, r1m, r2m, rb1e, rb2e, r1e, r2e]; exact v5_
        · simp (disch := omega) only [sI_off, bI_off, sL_off, bL_off, r1l, r2l, rb1l, rb2l, r1m, r2m, rb1e, rb2e, r1e, r2e]
          exact v3_.symm
        · simp (disch := omega) only [sI_off, bI_off, sL_off, bL_off, r1l, r2l, rb1l, rb2l, r1m, r2m, rb1e, rb2e, r1e, r2e]
          rw [v4_, v2_ 75 (by omega) (by omega) (by omega)]
          exact y6_
        · simp (disch := omega) only [sI_off, bI_off, sL_off, bL_off, r1l, r2l, rb1l, rb2l, r1m, r2m, rb1e, rb2e, r1e, r2e]
        · revert hz_
          simp (disch := omega) only [sI_off, bI_off, sL_off, bL_off, r1l, r2l, rb1l, rb2l, r1m, r2m, rb1e, rb2e, r1e, r2e]
          intro hz_
          rw [rwI_at hb_]
          cases hcp_ : comP (μ.1 6) m_ (i_ / 8) with
          | true =>
            rw [rcF_t (by rw [← hcp_]; exact cc_ i_ hb_), (v6_ i_ hb_ hcp_).1, w78_]
            exact y8_ i_ hb_ (fun q_ => hz_ ((v6_ i_ hb_ hcp_).2.trans q_))
          | false => exact absurd (v7_ i_ hb_ hcp_).2 hz_
        · simp (disch := omega) only [sI_off, bI_off, sL_off, bL_off, r1l, r2l, rb1l, rb2l, r1m, r2m, rb1e, rb2e, r1e, r2e]
          rw [rwI_at hb_]
          exact st_ i_ hb_
        · simp (disch := omega) only [sI_off, bI_off, sL_off, bL_off, r1l, r2l, rb1l, rb2l, r1m, r2m, rb1e, rb2e, r1e, r2e]
          cases hcp_ : comP (μ.1 6) m_ (i_ / 8) with
          | true =>
            rw [(v6_ i_ hb_ hcp_).2]
            exact y10_ i_ hb_
          | false => exact Or.inl (v7_ i_ hb_ hcp_).2
    · skip
      refine wa_if_neF 23 dX5_receive_17 (by decide) (by decide) ?_
      refine wa_bipush (-3) dX5_receive_20 (by decide) ?_
      refine wa_iret dX5_receive_22 rfl ?_
      rw [hk_]
      refine MW_of (by decide) [some (.ref 73), some (.int (nI j_)), none, none, none] rfl (Nat.le_of_ble_eq_true rfl) ?_
      refine wa_iload_n dX6_receive_0 rfl ?_
      refine wa_i2l dX6_receive_1 ?_
      refine wa_lconst (0) dX6_receive_2 (by decide) ?_
      refine wa_ldc2 (7) dX6_receive_3 lcX6_58 ?_
      refine wa_callS3 (k' := kX6_in) (d' := 0) dX6_receive_6 lmX6_60 ksX6_in (by decide) (by omega) (Nat.le_of_ble_eq_true rfl) ?_
      refine in8_1 hj_ ?_
      refine wa_if_neT 15 dX6_receive_9 (by decide) (by decide) ?_
      refine wa_aload_n dX6_receive_15 rfl ?_
      refine wa_getI dX6_receive_16 fgX6_179 (by first | assumption | rfl) (by rfl) ?_
      refine wa_if_neF 25 dX6_receive_19 (by decide) (by rw [k4_, h_]; exact fun q => q rfl) ?_
      refine wa_bipush (-3) dX6_receive_22 (by decide) ?_
      refine wa_iret dX6_receive_24 rfl ?_
      exact ⟨rfl, hrel.up⟩
  · skip
    refine wa_if_neF 10 dX5_receive_4 (by decide) (by decide) ?_
    refine wa_bipush (-2) dX5_receive_7 (by decide) ?_
    refine wa_iret dX5_receive_9 rfl ?_
    skip
    refine MW_of (by decide) [some (.ref 73), some (.int k), none, none, none] rfl (Nat.le_of_ble_eq_true rfl) ?_
    refine wa_iload_n dX6_receive_0 rfl ?_
    refine wa_i2l dX6_receive_1 ?_
    refine wa_lconst (0) dX6_receive_2 (by decide) ?_
    refine wa_ldc2 (7) dX6_receive_3 lcX6_58 ?_
    refine wa_callS3 (k' := kX6_in) (d' := 0) dX6_receive_6 lmX6_60 ksX6_in (by decide) (by omega) (Nat.le_of_ble_eq_true rfl) ?_
    refine in8_0 hoob ?_
    refine wa_if_neF 15 dX6_receive_9 (by decide) (by decide) ?_
    refine wa_bipush (-2) dX6_receive_12 (by decide) ?_
    refine wa_iret dX6_receive_14 rfl ?_
    exact ⟨rfl, hrel.up⟩
