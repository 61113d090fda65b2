/-! MOORING and WARNING of the class -/
theorem wp_X0_begin {d : Nat} {x y r m : Int32} {μ : Mem} {Q : QM} (hQ : Q none (sI (sI (sI (sL (sL (sL μ 5 0 x.toInt64) 5 1 y.toInt64) 5 2 r.toInt64) 5 3 m) 5 4 (nI 0)) 5 5 (nI 0))) : MW kX0_begin d [.ref 5, .int x, .int y, .int r, .int m] μ Q := by
  refine MW_of (by decide) [some (.ref 5), some (.int x), some (.int y), some (.int r), some (.int m)] rfl (Nat.le_of_ble_eq_true rfl) ?_
  refine wa_aload_n dX0_begin_0 rfl ?_
  refine wa_iload_n dX0_begin_1 rfl ?_
  refine wa_i2l dX0_begin_2 ?_
  refine wa_putL dX0_begin_3 fgX0_13 fw0_0 (by first | assumption | rfl) (by rfl) ?_
  refine wa_aload_n dX0_begin_6 rfl ?_
  refine wa_iload_n dX0_begin_7 rfl ?_
  refine wa_i2l dX0_begin_8 ?_
  refine wa_putL dX0_begin_9 fgX0_17 fw0_1 (by first | assumption | rfl) (by rfl) ?_
  refine wa_aload_n dX0_begin_12 rfl ?_
  refine wa_iload_n dX0_begin_13 rfl ?_
  refine wa_i2l dX0_begin_14 ?_
  refine wa_putL dX0_begin_15 fgX0_20 fw0_2 (by first | assumption | rfl) (by rfl) ?_
  refine wa_aload_n dX0_begin_18 rfl ?_
  refine wa_iload dX0_begin_19 rfl ?_
  refine wa_putI dX0_begin_21 fgX0_7 fw0_3 (by first | assumption | rfl) (by rfl) ?_
  refine wa_aload_n dX0_begin_24 rfl ?_
  refine wa_iconst (nI 0) dX0_begin_25 (by decide) ?_
  refine wa_putI dX0_begin_26 fgX0_23 fw0_4 (by first | assumption | rfl) (by rfl) ?_
  refine wa_aload_n dX0_begin_29 rfl ?_
  refine wa_iconst (nI 0) dX0_begin_30 (by decide) ?_
  refine wa_putI dX0_begin_31 fgX0_26 fw0_5 (by first | assumption | rfl) (by rfl) ?_
  refine wa_vret dX0_begin_34 rfl ?_
  exact hQ
def isOutP (μ : Mem) (x y : Int64) : Prop := (μ.2 5 2 * μ.2 5 2).toInt < ((x - μ.2 5 0) * (x - μ.2 5 0) + (y - μ.2 5 1) * (y - μ.2 5 1)).toInt
theorem wp_X0_isOut {d : Nat} {x y : Int64} {μ : Mem} {Q : QM} (h1 : isOutP μ x y → Q (some (.int (nI 1))) μ) (h0 : ¬ isOutP μ x y → Q (some (.int (nI 0))) μ) : MW kX0_isOut d [.ref 5, .long x, .long y] μ Q := by
  refine MW_of (by decide) [some (.ref 5), some (.long x), none, some (.long y), none, none, none, none, none] rfl (Nat.le_of_ble_eq_true rfl) ?_
  refine wa_lload_n dX0_isOut_0 rfl ?_
  refine wa_aload_n dX0_isOut_1 rfl ?_
  refine wa_getL dX0_isOut_2 fgX0_13 (by first | assumption | rfl) (by rfl) ?_
  refine wa_lsub dX0_isOut_5 ?_
  refine wa_lstore dX0_isOut_6 (by decide) ?_
  refine wa_lload_n dX0_isOut_8 rfl ?_
  refine wa_aload_n dX0_isOut_9 rfl ?_
  refine wa_getL dX0_isOut_10 fgX0_17 (by first | assumption | rfl) (by rfl) ?_
  refine wa_lsub dX0_isOut_13 ?_
  refine wa_lstore dX0_isOut_14 (by decide) ?_
  refine wa_lload dX0_isOut_16 rfl ?_
  refine wa_lload dX0_isOut_18 rfl ?_
  refine wa_lmul dX0_isOut_20 ?_
  refine wa_lload dX0_isOut_21 rfl ?_
  refine wa_lload dX0_isOut_23 rfl ?_
  refine wa_lmul dX0_isOut_25 ?_
  refine wa_ladd dX0_isOut_26 ?_
  refine wa_aload_n dX0_isOut_27 rfl ?_
  refine wa_getL dX0_isOut_28 fgX0_20 (by first | assumption | rfl) (by rfl) ?_
  refine wa_aload_n dX0_isOut_31 rfl ?_
  refine wa_getL dX0_isOut_32 fgX0_20 (by first | assumption | rfl) (by rfl) ?_
  refine wa_lmul dX0_isOut_35 ?_
  refine wa_lc_le 44 dX0_isOut_36 dX0_isOut_37 (by decide) (fun c36_1 => ?_) (fun c36_1 => ?_)
  · try simp (disch := omega) only [nI_toInt] at c36_1
    refine wa_iconst (nI 0) dX0_isOut_44 (by decide) ?_
    refine wa_zret dX0_isOut_45 rfl (by decide) ?_
    exact h0 (by unfold isOutP; omega)
  · try simp (disch := omega) only [nI_toInt] at c36_1
    refine wa_iconst (nI 1) dX0_isOut_40 (by decide) ?_
    refine wa_goto 45 dX0_isOut_41 (by decide) ?_
    refine wa_zret dX0_isOut_45 rfl (by decide) ?_
    exact h1 (by unfold isOutP; omega)
theorem wp_X0_places {d : Nat} {μ : Mem} {Q : QM} (hQ : Q (some (.int (μ.1 5 4))) μ) : MW kX0_places d [.ref 5] μ Q := by
  refine MW_of (by decide) [some (.ref 5)] rfl (Nat.le_of_ble_eq_true rfl) ?_
  refine wa_aload_n dX0_places_0 rfl ?_
  refine wa_getI dX0_places_1 fgX0_23 (by first | assumption | rfl) (by rfl) ?_
  refine wa_iret dX0_places_4 rfl ?_
  exact hQ
theorem wp_X0_outOnEnd {d : Nat} {μ : Mem} {Q : QM} (hQ : Q (some (.int (μ.1 5 5))) μ) : MW kX0_outOnEnd d [.ref 5] μ Q := by
  refine MW_of (by decide) [some (.ref 5)] rfl (Nat.le_of_ble_eq_true rfl) ?_
  refine wa_aload_n dX0_outOnEnd_0 rfl ?_
  refine wa_getI dX0_outOnEnd_1 fgX0_26 (by first | assumption | rfl) (by rfl) ?_
  refine wa_iret dX0_outOnEnd_4 rfl ?_
  exact hQ
theorem wp_X0_width {d : Nat} {μ : Mem} {Q : QM} (h0 : (μ.1 5 4).toInt = 0 → Q (some (.int (nI 0))) μ) (h1 : ¬ (μ.1 5 4).toInt = 0 → Q (some (.int (μ.1 5 7 - μ.1 5 6))) μ) : MW kX0_width d [.ref 5] μ Q := by
  refine MW_of (by decide) [some (.ref 5)] rfl (Nat.le_of_ble_eq_true rfl) ?_
  refine wa_aload_n dX0_width_0 rfl ?_
  refine wa_getI dX0_width_1 fgX0_23 (by first | assumption | rfl) (by rfl) ?_
  refine wa_if_ne 11 dX0_width_4 (by decide) (fun c4_1 => ?_) (fun c4_1 => ?_)
  · try simp (disch := omega) only [nI_toInt] at c4_1
    refine wa_aload_n dX0_width_11 rfl ?_
    refine wa_getI dX0_width_12 fgX0_38 (by first | assumption | rfl) (by rfl) ?_
    refine wa_aload_n dX0_width_15 rfl ?_
    refine wa_getI dX0_width_16 fgX0_29 (by first | assumption | rfl) (by rfl) ?_
    refine wa_isub dX0_width_19 ?_
    refine wa_iret dX0_width_20 rfl ?_
    exact h1 (by assumption)
  · try simp (disch := omega) only [nI_toInt] at c4_1
    refine wa_iconst (nI 0) dX0_width_7 (by decide) ?_
    refine wa_goto 20 dX0_width_8 (by decide) ?_
    refine wa_iret dX0_width_20 rfl ?_
    exact h0 (by omega)
theorem wp_X0_depth {d : Nat} {μ : Mem} {Q : QM} (h0 : (μ.1 5 4).toInt = 0 → Q (some (.int (nI 0))) μ) (h1 : ¬ (μ.1 5 4).toInt = 0 → Q (some (.int (μ.1 5 9 - μ.1 5 8))) μ) : MW kX0_depth d [.ref 5] μ Q := by
  refine MW_of (by decide) [some (.ref 5)] rfl (Nat.le_of_ble_eq_true rfl) ?_
  refine wa_aload_n dX0_depth_0 rfl ?_
  refine wa_getI dX0_depth_1 fgX0_23 (by first | assumption | rfl) (by rfl) ?_
  refine wa_if_ne 11 dX0_depth_4 (by decide) (fun c4_1 => ?_) (fun c4_1 => ?_)
  · try simp (disch := omega) only [nI_toInt] at c4_1
    refine wa_aload_n dX0_depth_11 rfl ?_
    refine wa_getI dX0_depth_12 fgX0_47 (by first | assumption | rfl) (by rfl) ?_
    refine wa_aload_n dX0_depth_15 rfl ?_
    refine wa_getI dX0_depth_16 fgX0_44 (by first | assumption | rfl) (by rfl) ?_
    refine wa_isub dX0_depth_19 ?_
    refine wa_iret dX0_depth_20 rfl ?_
    exact h1 (by assumption)
  · try simp (disch := omega) only [nI_toInt] at c4_1
    refine wa_iconst (nI 0) dX0_depth_7 (by decide) ?_
    refine wa_goto 20 dX0_depth_8 (by decide) ?_
    refine wa_iret dX0_depth_20 rfl ?_
    exact h0 (by omega)
theorem wp_X0_state {d : Nat} {μ : Mem} {Q : QM} (h0 : (μ.1 5 5).toInt = 0 → Q (some (.int (nI 0))) μ) (h1 : ¬ (μ.1 5 5).toInt = 0 → (μ.1 5 5).toInt < (μ.1 5 3).toInt → Q (some (.int (nI 1))) μ) (h2 : ¬ (μ.1 5 5).toInt = 0 → ¬ (μ.1 5 5).toInt < (μ.1 5 3).toInt → Q (some (.int (nI 2))) μ) : MW kX0_state d [.ref 5] μ Q := by
  refine MW_of (by decide) [some (.ref 5)] rfl (Nat.le_of_ble_eq_true rfl) ?_
  refine wa_aload_n dX0_state_0 rfl ?_
  refine wa_getI dX0_state_1 fgX0_26 (by first | assumption | rfl) (by rfl) ?_
  refine wa_if_ne 9 dX0_state_4 (by decide) (fun c4_1 => ?_) (fun c4_1 => ?_)
  · try simp (disch := omega) only [nI_toInt] at c4_1
    refine wa_aload_n dX0_state_9 rfl ?_
    refine wa_getI dX0_state_10 fgX0_26 (by first | assumption | rfl) (by rfl) ?_
    refine wa_aload_n dX0_state_13 rfl ?_
    refine wa_getI dX0_state_14 fgX0_7 (by first | assumption | rfl) (by rfl) ?_
    refine wa_ic_lt 24 dX0_state_17 (by decide) (fun c17_2 => ?_) (fun c17_2 => ?_)
    · try simp (disch := omega) only [nI_toInt] at c17_2
      refine wa_iconst (nI 1) dX0_state_24 (by decide) ?_
      refine wa_iret dX0_state_25 rfl ?_
      exact h1 (by assumption) (by assumption)
    · try simp (disch := omega) only [nI_toInt] at c17_2
      refine wa_iconst (nI 2) dX0_state_20 (by decide) ?_
      refine wa_goto 25 dX0_state_21 (by decide) ?_
      refine wa_iret dX0_state_25 rfl ?_
      exact h2 (by assumption) (by assumption)
  · try simp (disch := omega) only [nI_toInt] at c4_1
    refine wa_iconst (nI 0) dX0_state_7 (by decide) ?_
    refine wa_iret dX0_state_8 rfl ?_
    exact h0 (by omega)
/-- what the greatest and the least become -/
def mTake (μ : Mem) (x y : Int32) : Mem :=
  if (μ.1 5 4).toInt = 0 then sI (sI (sI (sI (sI μ 5 6 x) 5 7 x) 5 8 y) 5 9 y) 5 4 (μ.1 5 4 + nI 1)
  else sI (sI (sI (sI (sI μ 5 6 (mnI (μ.1 5 6) x)) 5 7 (mxI (μ.1 5 7) x)) 5 8 (mnI (μ.1 5 8) y)) 5 9 (mxI (μ.1 5 9) y)) 5 4 (μ.1 5 4 + nI 1)
theorem mTake_l (μ : Mem) (x y : Int32) : (mTake μ x y).2 = μ.2 := by
  unfold mTake
  split <;> rfl
theorem wp_X0_take {d : Nat} {x y : Int32} {μ : Mem} {Q : QM} (hd : 1 ≤ d) (h1 : isOutP μ x.toInt64 y.toInt64 → Q none (sI (mTake μ x y) 5 5 (μ.1 5 5 + nI 1))) (h0 : ¬ isOutP μ x.toInt64 y.toInt64 → Q none (sI (mTake μ x y) 5 5 (nI 0))) : MW kX0_take d [.ref 5, .int x, .int y] μ Q := by
  refine MW_of (by decide) [some (.ref 5), some (.int x), some (.int y)] rfl (Nat.le_of_ble_eq_true rfl) ?_
  have eo : ∀ {a b : Int64}, isOutP (mTake μ x y) a b = isOutP μ a b := by
    intro a b
    unfold isOutP
    rw [mTake_l]
  have e5 : (mTake μ x y).1 5 5 = μ.1 5 5 := by
    unfold mTake
    split <;> simp (disch := decide) only [r1m]
  have J : WA kX0_take d Q 102 [some (.ref 5), some (.int x), some (.int y)] [] (mTake μ x y) := by
    refine wa_aload_n dX0_take_102 rfl ?_
    refine wa_aload_n dX0_take_103 rfl ?_
    refine wa_iload_n dX0_take_104 rfl ?_
    refine wa_i2l dX0_take_105 ?_
    refine wa_iload_n dX0_take_106 rfl ?_
    refine wa_i2l dX0_take_107 ?_
    refine wa_callV2 (k' := kX0_isOut) (d' := 0) dX0_take_108 lmX0_50 kvX0_isOut (by first | assumption | rfl) (by rfl) (by decide) (by omega) (Nat.le_of_ble_eq_true rfl) ?_
    refine wp_X0_isOut (fun ho => ?_) (fun ho => ?_)
    · skip
      refine wa_if_eqF 123 dX0_take_111 (by decide) (by decide) ?_
      refine wa_aload_n dX0_take_114 rfl ?_
      refine wa_getI dX0_take_115 fgX0_26 (by first | assumption | rfl) (by rfl) ?_
      refine wa_iconst (nI 1) dX0_take_118 (by decide) ?_
      refine wa_iadd dX0_take_119 ?_
      refine wa_goto 124 dX0_take_120 (by decide) ?_
      refine wa_putI dX0_take_124 fgX0_26 fw0_5 (by first | assumption | rfl) (by rfl) ?_
      refine wa_vret dX0_take_127 rfl ?_
      rw [e5]; exact h1 (by rw [← eo]; exact ho)
    · skip
      refine wa_if_eqT 123 dX0_take_111 (by decide) (by decide) ?_
      refine wa_iconst (nI 0) dX0_take_123 (by decide) ?_
      refine wa_putI dX0_take_124 fgX0_26 fw0_5 (by first | assumption | rfl) (by rfl) ?_
      refine wa_vret dX0_take_127 rfl ?_
      exact h0 (by rw [← eo]; exact ho)
  by_cases hp : (μ.1 5 4).toInt = 0
  · rw [mTake, if_pos hp] at J
    refine wa_aload_n dX0_take_0 rfl ?_
    refine wa_aload_n dX0_take_1 rfl ?_
    refine wa_getI dX0_take_2 fgX0_23 (by first | assumption | rfl) (by rfl) ?_
    refine wa_if_neF 12 dX0_take_5 (by decide) (by first | omega | (simp (disch := decide) only [r1m]; omega)) ?_
    refine wa_iload_n dX0_take_8 rfl ?_
    refine wa_goto 20 dX0_take_9 (by decide) ?_
    refine wa_putI dX0_take_20 fgX0_29 fw0_6 (by first | assumption | rfl) (by rfl) ?_
    refine wa_aload_n dX0_take_23 rfl ?_
    refine wa_aload_n dX0_take_24 rfl ?_
    refine wa_getI dX0_take_25 fgX0_23 (by first | assumption | rfl) (by rfl) ?_
    refine wa_if_neF 35 dX0_take_28 (by decide) (by first | omega | (simp (disch := decide) only [r1m]; omega)) ?_
    refine wa_iload_n dX0_take_31 rfl ?_
    refine wa_goto 43 dX0_take_32 (by decide) ?_
    refine wa_putI dX0_take_43 fgX0_38 fw0_7 (by first | assumption | rfl) (by rfl) ?_
    refine wa_aload_n dX0_take_46 rfl ?_
    refine wa_aload_n dX0_take_47 rfl ?_
    refine wa_getI dX0_take_48 fgX0_23 (by first | assumption | rfl) (by rfl) ?_
    refine wa_if_neF 58 dX0_take_51 (by decide) (by first | omega | (simp (disch := decide) only [r1m]; omega)) ?_
    refine wa_iload_n dX0_take_54 rfl ?_
    refine wa_goto 66 dX0_take_55 (by decide) ?_
    refine wa_putI dX0_take_66 fgX0_44 fw0_8 (by first | assumption | rfl) (by rfl) ?_
    refine wa_aload_n dX0_take_69 rfl ?_
    refine wa_aload_n dX0_take_70 rfl ?_
    refine wa_getI dX0_take_71 fgX0_23 (by first | assumption | rfl) (by rfl) ?_
    refine wa_if_neF 81 dX0_take_74 (by decide) (by first | omega | (simp (disch := decide) only [r1m]; omega)) ?_
    refine wa_iload_n dX0_take_77 rfl ?_
    refine wa_goto 89 dX0_take_78 (by decide) ?_
    refine wa_putI dX0_take_89 fgX0_47 fw0_9 (by first | assumption | rfl) (by rfl) ?_
    refine wa_aload_n dX0_take_92 rfl ?_
    first | refine wa_dupr dX0_take_93 ?_ | refine wa_dupi dX0_take_93 ?_
    refine wa_getI dX0_take_94 fgX0_23 (by first | assumption | rfl) (by rfl) ?_
    refine wa_iconst (nI 1) dX0_take_97 (by decide) ?_
    refine wa_iadd dX0_take_98 ?_
    refine wa_putI dX0_take_99 fgX0_23 fw0_4 (by first | assumption | rfl) (by rfl) ?_
    exact J
  · rw [mTake, if_neg hp] at J
    refine wa_aload_n dX0_take_0 rfl ?_
    refine wa_aload_n dX0_take_1 rfl ?_
    refine wa_getI dX0_take_2 fgX0_23 (by first | assumption | rfl) (by rfl) ?_
    refine wa_if_neT 12 dX0_take_5 (by decide) (by first | exact hp | (simp (disch := decide) only [r1m]; exact hp)) ?_
    refine wa_aload_n dX0_take_12 rfl ?_
    refine wa_getI dX0_take_13 fgX0_29 (by first | assumption | rfl) (by rfl) ?_
    refine wa_iload_n dX0_take_16 rfl ?_
    refine wa_mminI dX0_take_17 lmX0_32 (by omega) (Nat.le_of_ble_eq_true rfl) ?_
    refine wa_putI dX0_take_20 fgX0_29 fw0_6 (by first | assumption | rfl) (by rfl) ?_
    refine wa_aload_n dX0_take_23 rfl ?_
    refine wa_aload_n dX0_take_24 rfl ?_
    refine wa_getI dX0_take_25 fgX0_23 (by first | assumption | rfl) (by rfl) ?_
    refine wa_if_neT 35 dX0_take_28 (by decide) (by first | exact hp | (simp (disch := decide) only [r1m]; exact hp)) ?_
    refine wa_aload_n dX0_take_35 rfl ?_
    refine wa_getI dX0_take_36 fgX0_38 (by first | assumption | rfl) (by rfl) ?_
    refine wa_iload_n dX0_take_39 rfl ?_
    refine wa_mmaxI dX0_take_40 lmX0_41 (by omega) (Nat.le_of_ble_eq_true rfl) ?_
    refine wa_putI dX0_take_43 fgX0_38 fw0_7 (by first | assumption | rfl) (by rfl) ?_
    refine wa_aload_n dX0_take_46 rfl ?_
    refine wa_aload_n dX0_take_47 rfl ?_
    refine wa_getI dX0_take_48 fgX0_23 (by first | assumption | rfl) (by rfl) ?_
    refine wa_if_neT 58 dX0_take_51 (by decide) (by first | exact hp | (simp (disch := decide) only [r1m]; exact hp)) ?_
    refine wa_aload_n dX0_take_58 rfl ?_
    refine wa_getI dX0_take_59 fgX0_44 (by first | assumption | rfl) (by rfl) ?_
    refine wa_iload_n dX0_take_62 rfl ?_
    refine wa_mminI dX0_take_63 lmX0_32 (by omega) (Nat.le_of_ble_eq_true rfl) ?_
    refine wa_putI dX0_take_66 fgX0_44 fw0_8 (by first | assumption | rfl) (by rfl) ?_
    refine wa_aload_n dX0_take_69 rfl ?_
    refine wa_aload_n dX0_take_70 rfl ?_
    refine wa_getI dX0_take_71 fgX0_23 (by first | assumption | rfl) (by rfl) ?_
    refine wa_if_neT 81 dX0_take_74 (by decide) (by first | exact hp | (simp (disch := decide) only [r1m]; exact hp)) ?_
    refine wa_aload_n dX0_take_81 rfl ?_
    refine wa_getI dX0_take_82 fgX0_47 (by first | assumption | rfl) (by rfl) ?_
    refine wa_iload_n dX0_take_85 rfl ?_
    refine wa_mmaxI dX0_take_86 lmX0_41 (by omega) (Nat.le_of_ble_eq_true rfl) ?_
    refine wa_putI dX0_take_89 fgX0_47 fw0_9 (by first | assumption | rfl) (by rfl) ?_
    refine wa_aload_n dX0_take_92 rfl ?_
    first | refine wa_dupr dX0_take_93 ?_ | refine wa_dupi dX0_take_93 ?_
    refine wa_getI dX0_take_94 fgX0_23 (by first | assumption | rfl) (by rfl) ?_
    refine wa_iconst (nI 1) dX0_take_97 (by decide) ?_
    refine wa_iadd dX0_take_98 ?_
    refine wa_putI dX0_take_99 fgX0_23 fw0_4 (by first | assumption | rfl) (by rfl) ?_
    exact J
theorem wp_X4_begin {d : Nat} {a b c : Int32} {μ : Mem} {Q : QM} (hQ : Q none (sI (sI (sI (sI (sI (sI (sI μ 4 0 a) 4 1 b) 4 2 c) 4 3 (nI 0)) 4 4 (nI 0)) 4 5 (nI 0)) 4 6 (nI 0))) : MW kX4_begin d [.ref 4, .int a, .int b, .int c] μ Q := by
  refine MW_of (by decide) [some (.ref 4), some (.int a), some (.int b), some (.int c)] rfl (Nat.le_of_ble_eq_true rfl) ?_
  refine wa_aload_n dX4_begin_0 rfl ?_
  refine wa_iload_n dX4_begin_1 rfl ?_
  refine wa_putI dX4_begin_2 fgX4_7 fw4_0 (by first | assumption | rfl) (by rfl) ?_
  refine wa_aload_n dX4_begin_5 rfl ?_
  refine wa_iload_n dX4_begin_6 rfl ?_
  refine wa_putI dX4_begin_7 fgX4_13 fw4_1 (by first | assumption | rfl) (by rfl) ?_
  refine wa_aload_n dX4_begin_10 rfl ?_
  refine wa_iload_n dX4_begin_11 rfl ?_
  refine wa_putI dX4_begin_12 fgX4_16 fw4_2 (by first | assumption | rfl) (by rfl) ?_
  refine wa_aload_n dX4_begin_15 rfl ?_
  refine wa_iconst (nI 0) dX4_begin_16 (by decide) ?_
  refine wa_putI dX4_begin_17 fgX4_19 fw4_3 (by first | assumption | rfl) (by rfl) ?_
  refine wa_aload_n dX4_begin_20 rfl ?_
  refine wa_iconst (nI 0) dX4_begin_21 (by decide) ?_
  refine wa_putI dX4_begin_22 fgX4_22 fw4_4 (by first | assumption | rfl) (by rfl) ?_
  refine wa_aload_n dX4_begin_25 rfl ?_
  refine wa_iconst (nI 0) dX4_begin_26 (by decide) ?_
  refine wa_putI dX4_begin_27 fgX4_25 fw4_5 (by first | assumption | rfl) (by rfl) ?_
  refine wa_aload_n dX4_begin_30 rfl ?_
  refine wa_iconst (nI 0) dX4_begin_31 (by decide) ?_
  refine wa_putI dX4_begin_32 fgX4_28 fw4_6 (by first | assumption | rfl) (by rfl) ?_
  refine wa_vret dX4_begin_35 rfl ?_
  exact hQ
theorem wp_X4_state {d : Nat} {μ : Mem} {Q : QM} (hQ : Q (some (.int (μ.1 4 3))) μ) : MW kX4_state d [.ref 4] μ Q := by
  refine MW_of (by decide) [some (.ref 4)] rfl (Nat.le_of_ble_eq_true rfl) ?_
  refine wa_aload_n dX4_state_0 rfl ?_
  refine wa_getI dX4_state_1 fgX4_19 (by first | assumption | rfl) (by rfl) ?_
  refine wa_iret dX4_state_4 rfl ?_
  exact hQ
theorem wp_X4_heard {d : Nat} {μ : Mem} {Q : QM} (hQ : Q (some (.int (μ.1 4 4))) μ) : MW kX4_heard d [.ref 4] μ Q := by
  refine MW_of (by decide) [some (.ref 4)] rfl (Nat.le_of_ble_eq_true rfl) ?_
  refine wa_aload_n dX4_heard_0 rfl ?_
  refine wa_getI dX4_heard_1 fgX4_22 (by first | assumption | rfl) (by rfl) ?_
  refine wa_iret dX4_heard_4 rfl ?_
  exact hQ
theorem wp_X4_changes {d : Nat} {μ : Mem} {Q : QM} (hQ : Q (some (.int (μ.1 4 5))) μ) : MW kX4_changes d [.ref 4] μ Q := by
  refine MW_of (by decide) [some (.ref 4)] rfl (Nat.le_of_ble_eq_true rfl) ?_
  refine wa_aload_n dX4_changes_0 rfl ?_
  refine wa_getI dX4_changes_1 fgX4_25 (by first | assumption | rfl) (by rfl) ?_
  refine wa_iret dX4_changes_4 rfl ?_
  exact hQ
def wNx (v on off st : Int32) : Int32 := if on.toInt ≤ v.toInt then nI 1 else if v.toInt ≤ off.toInt then nI 0 else st
theorem wp_X4_take {d : Nat} {v : Int32} {μ : Mem} {Q : QM}
    (hA : ¬ (wNx v (μ.1 4 0) (μ.1 4 1) (μ.1 4 3)).toInt = (μ.1 4 3).toInt → ¬ (0 < (μ.1 4 5).toInt ∧ (μ.1 4 4 + nI 1 - μ.1 4 6).toInt ≤ (μ.1 4 2).toInt) → Q none (sI (sI (sI (sI μ 4 4 (μ.1 4 4 + nI 1)) 4 3 (wNx v (μ.1 4 0) (μ.1 4 1) (μ.1 4 3))) 4 5 (μ.1 4 5 + nI 1)) 4 6 (μ.1 4 4 + nI 1)))
    (hB : ((wNx v (μ.1 4 0) (μ.1 4 1) (μ.1 4 3)).toInt = (μ.1 4 3).toInt ∨ (0 < (μ.1 4 5).toInt ∧ (μ.1 4 4 + nI 1 - μ.1 4 6).toInt ≤ (μ.1 4 2).toInt)) → Q none (sI μ 4 4 (μ.1 4 4 + nI 1))) : MW kX4_take d [.ref 4, .int v] μ Q := by
  refine MW_of (by decide) [some (.ref 4), some (.int v), none, none] rfl (Nat.le_of_ble_eq_true rfl) ?_
  have J1 : ∀ b : Int32, (b = nI 1 ∧ (0 < (μ.1 4 5).toInt ∧ (μ.1 4 4 + nI 1 - μ.1 4 6).toInt ≤ (μ.1 4 2).toInt)) ∨ (b = nI 0 ∧ ¬ (0 < (μ.1 4 5).toInt ∧ (μ.1 4 4 + nI 1 - μ.1 4 6).toInt ≤ (μ.1 4 2).toInt)) → WA kX4_take d Q 68 [some (.ref 4), some (.int v), some (.int (wNx v (μ.1 4 0) (μ.1 4 1) (μ.1 4 3))), some (.int b)] [] (sI μ 4 4 (μ.1 4 4 + nI 1)) := by
    intro b hb
    refine wa_iload_n dX4_take_68 rfl ?_
    refine wa_aload_n dX4_take_69 rfl ?_
    refine wa_getI dX4_take_70 fgX4_19 (by first | assumption | rfl) (by rfl) ?_
    refine wa_ic_eq 103 dX4_take_73 (by decide) (fun c73_1 => ?_) (fun c73_1 => ?_)
    · try simp (disch := omega) only [nI_toInt, r1m] at c73_1
      refine wa_vret dX4_take_103 rfl ?_
      exact hB (Or.inl (by assumption))
    · try simp (disch := omega) only [nI_toInt, r1m] at c73_1
      refine wa_iload_n dX4_take_76 rfl ?_
      refine wa_if_ne 103 dX4_take_77 (by decide) (fun c77_2 => ?_) (fun c77_2 => ?_)
      · try simp (disch := omega) only [nI_toInt, r1m] at c77_2
        refine wa_vret dX4_take_103 rfl ?_
        rcases hb with ⟨hb, hh⟩ | ⟨hb, hh⟩
        · exact hB (Or.inr hh)
        · exact absurd (show b.toInt = 0 by rw [hb]; decide) (by assumption)
      · try simp (disch := omega) only [nI_toInt, r1m] at c77_2
        refine wa_aload_n dX4_take_80 rfl ?_
        refine wa_iload_n dX4_take_81 rfl ?_
        refine wa_putI dX4_take_82 fgX4_19 fw4_3 (by first | assumption | rfl) (by rfl) ?_
        refine wa_aload_n dX4_take_85 rfl ?_
        first | refine wa_dupr dX4_take_86 ?_ | refine wa_dupi dX4_take_86 ?_
        refine wa_getI dX4_take_87 fgX4_25 (by first | assumption | rfl) (by rfl) ?_
        refine wa_iconst (nI 1) dX4_take_90 (by decide) ?_
        refine wa_iadd dX4_take_91 ?_
        refine wa_putI dX4_take_92 fgX4_25 fw4_5 (by first | assumption | rfl) (by rfl) ?_
        refine wa_aload_n dX4_take_95 rfl ?_
        refine wa_aload_n dX4_take_96 rfl ?_
        refine wa_getI dX4_take_97 fgX4_22 (by first | assumption | rfl) (by rfl) ?_
        refine wa_putI dX4_take_100 fgX4_28 fw4_6 (by first | assumption | rfl) (by rfl) ?_
        refine wa_vret dX4_take_103 rfl ?_
        rcases hb with ⟨hb, hh⟩ | ⟨hb, hh⟩
        · exact absurd (show ¬ b.toInt = 0 by rw [hb]; decide) c77_2
        · simp (disch := decide) only [r1m, r1e]
          exact hA (by assumption) hh
  have J : WA kX4_take d Q 38 [some (.ref 4), some (.int v), none, none] [.int (wNx v (μ.1 4 0) (μ.1 4 1) (μ.1 4 3))] (sI μ 4 4 (μ.1 4 4 + nI 1)) := by
    refine wa_istore_n dX4_take_38 (by decide) ?_
    refine wa_aload_n dX4_take_39 rfl ?_
    refine wa_getI dX4_take_40 fgX4_25 (by first | assumption | rfl) (by rfl) ?_
    refine wa_if_le 66 dX4_take_43 (by decide) (fun c43_1 => ?_) (fun c43_1 => ?_)
    · try simp (disch := omega) only [nI_toInt, r1m, r1e] at c43_1
      refine wa_iconst (nI 0) dX4_take_66 (by decide) ?_
      refine wa_istore_n dX4_take_67 (by decide) ?_
      exact J1 _ (Or.inr ⟨rfl, by omega⟩)
    · try simp (disch := omega) only [nI_toInt, r1m, r1e] at c43_1
      refine wa_aload_n dX4_take_46 rfl ?_
      refine wa_getI dX4_take_47 fgX4_22 (by first | assumption | rfl) (by rfl) ?_
      refine wa_aload_n dX4_take_50 rfl ?_
      refine wa_getI dX4_take_51 fgX4_28 (by first | assumption | rfl) (by rfl) ?_
      refine wa_isub dX4_take_54 ?_
      refine wa_aload_n dX4_take_55 rfl ?_
      refine wa_getI dX4_take_56 fgX4_16 (by first | assumption | rfl) (by rfl) ?_
      refine wa_ic_gt 66 dX4_take_59 (by decide) (fun c59_2 => ?_) (fun c59_2 => ?_)
      · try simp (disch := omega) only [nI_toInt, r1m, r1e] at c59_2
        refine wa_iconst (nI 0) dX4_take_66 (by decide) ?_
        refine wa_istore_n dX4_take_67 (by decide) ?_
        exact J1 _ (Or.inr ⟨rfl, by omega⟩)
      · try simp (disch := omega) only [nI_toInt, r1m, r1e] at c59_2
        refine wa_iconst (nI 1) dX4_take_62 (by decide) ?_
        refine wa_goto 67 dX4_take_63 (by decide) ?_
        refine wa_istore_n dX4_take_67 (by decide) ?_
        exact J1 _ (Or.inl ⟨rfl, by omega⟩)
  refine wa_aload_n dX4_take_0 rfl ?_
  first | refine wa_dupr dX4_take_1 ?_ | refine wa_dupi dX4_take_1 ?_
  refine wa_getI dX4_take_2 fgX4_22 (by first | assumption | rfl) (by rfl) ?_
  refine wa_iconst (nI 1) dX4_take_5 (by decide) ?_
  refine wa_iadd dX4_take_6 ?_
  refine wa_putI dX4_take_7 fgX4_22 fw4_4 (by first | assumption | rfl) (by rfl) ?_
  refine wa_iload_n dX4_take_10 rfl ?_
  refine wa_aload_n dX4_take_11 rfl ?_
  refine wa_getI dX4_take_12 fgX4_7 (by first | assumption | rfl) (by rfl) ?_
  refine wa_ic_lt 22 dX4_take_15 (by decide) (fun c15_1 => ?_) (fun c15_1 => ?_)
  · try simp (disch := omega) only [nI_toInt, r1m] at c15_1
    refine wa_iload_n dX4_take_22 rfl ?_
    refine wa_aload_n dX4_take_23 rfl ?_
    refine wa_getI dX4_take_24 fgX4_13 (by first | assumption | rfl) (by rfl) ?_
    refine wa_ic_gt 34 dX4_take_27 (by decide) (fun c27_2 => ?_) (fun c27_2 => ?_)
    · try simp (disch := omega) only [nI_toInt, r1m] at c27_2
      refine wa_aload_n dX4_take_34 rfl ?_
      refine wa_getI dX4_take_35 fgX4_19 (by first | assumption | rfl) (by rfl) ?_
      rw [wNx, if_neg (by omega), if_neg (by omega)] at J; rw [r1m (by decide)]; exact J
    · try simp (disch := omega) only [nI_toInt, r1m] at c27_2
      refine wa_iconst (nI 0) dX4_take_30 (by decide) ?_
      refine wa_goto 38 dX4_take_31 (by decide) ?_
      rw [wNx, if_neg (by omega), if_pos (by omega)] at J; exact J
  · try simp (disch := omega) only [nI_toInt, r1m] at c15_1
    refine wa_iconst (nI 1) dX4_take_18 (by decide) ?_
    refine wa_goto 38 dX4_take_19 (by decide) ?_
    rw [wNx, if_pos (by omega)] at J; exact J
