/-! the reference: the walk of the salt -/
def lW (A : Nat → Nat) : Nat → Int64 := fun i => lN (A i)
theorem lW_s {L : Nat → Nat → Int64} {q i v : Nat} {A : Nat → Nat} (h : A i = v) : uL (wfL L q (lW A) i) q i (lN v) = wfL L q (lW A) (i + 1) := by
  rw [← h]; exact wfL_s
theorem wst_p {g p : Nat} {sy : Bool} {W : Nat → Nat} (hp : W p = 0) : ∀ k, wst g p sy W k p = 0
  | 0 => rfl
  | k + 1 => by
    have ih := wst_p (g := g) (sy := sy) hp k
    by_cases e : nb g (k / 2) (k % 2) = p
    · cases hs : sy with
      | false => rw [← hs, wst_no rfl rfl e hs]; exact ih
      | true =>
        rw [← hs, wst_st rfl rfl e hs]
        by_cases q : p = k / 2
        · rw [show upN (wst g p sy W k) (k / 2) _ p = _ from if_pos q, ← q, ih, hp]
        · rw [show upN (wst g p sy W k) (k / 2) _ p = _ from if_neg q]; exact ih
    · rw [wst_go rfl rfl e, show upN (wst g p sy W k) (nb g (k / 2) (k % 2)) _ p = _ from if_neg (fun q => e q.symm)]; exact ih
theorem wkN_p {g s p : Nat} {sy : Bool} (h : s ≠ p) : ∀ n, wkN g s p sy n p = 0
  | 0 => if_neg (fun q => h q.symm)
  | n + 1 => wst_p (wkN_p h n) _
theorem hv_gcd : ∀ n, n < 9 → ∀ u, u < 257 → u ≤ 2 ^ n → hv n u (2 ^ n) = (u / Nat.gcd u (2 ^ n), 2 ^ n / Nat.gcd u (2 ^ n)) := by decide +kernel
set_option maxRecDepth 20000 in
theorem c_X7_beginAbout {S : Nat → Nat → Int32} {L : Nat → Nat → Int64} {R : Nat × Nat × Nat} {d : Nat} {a : Nat → Nat → Nat} (hM : MV S a) (hW : WL a) {sy : Bool} : TT mX7_beginAbout (d + 0) 0 [some (.ref 37), none] [] (S, L, R) (fun r σ' => r = none ∧ ∃ L', σ' = (S, L', R) ∧ LW L' 53 (a 0 0) (wkN (a 0 0) (a 3 0 / 8) (a 3 0 % 8) sy 0)) := by
  obtain ⟨mg, mdn, mso, msa, mpe, mrn, mgu, mdi, mre⟩ := id hM
  obtain ⟨w3, w8, wd1, wd6, wso, wb, wbs, wbp, wne, wrn, wgu, wdi, wre⟩ := id hW
  refine T_iconst (v := nI 0) dX7_beginAbout_0 (by decide) ?_
  refine T_ist1 dX7_beginAbout_1 (by decide) rfl ?_
  skip
  have st0 : TT mX7_beginAbout (d + 0) 2 [some (.ref 37), some (.int (nI 0))] [] (S, wfL L 53 (lW (wkN (a 0 0) (a 3 0 / 8) (a 3 0 % 8) sy 0)) 0, R) (fun r σ' => r = none ∧ ∃ L', σ' = (S, L', R) ∧ LW L' 53 (a 0 0) (wkN (a 0 0) (a 3 0 / 8) (a 3 0 % 8) sy 0)) := ?_
  · rw [wfL_0] at st0; exact st0
  refine up_ind (P := fun i => TT mX7_beginAbout (d + 0) 2 [some (.ref 37), some (.int (nI i))] [] (S, wfL L 53 (lW (wkN (a 0 0) (a 3 0 / 8) (a 3 0 % 8) sy 0)) i, R) (fun r σ' => r = none ∧ ∃ L', σ' = (S, L', R) ∧ LW L' 53 (a 0 0) (wkN (a 0 0) (a 3 0 / 8) (a 3 0 % 8) sy 0))) (a 0 0) ?_ ?_
  · refine T_ild1 dX7_beginAbout_2 ?_
    refine T_ald0 dX7_beginAbout_3 ?_
    refine T_getN dX7_beginAbout_4 lf_X7_78 rfl rfl mg ?_
    refine T_cgeN (tgt := 35) dX7_beginAbout_7 (by decide) (by omega) (by omega) (fun h7 => ?_) (fun h7 => by exfalso; omega)
    refine T_vret dX7_beginAbout_35 rfl ?_
    exact ⟨rfl, _, rfl, fun i hi => wfL_i hi⟩
  · intro i hi ih
    refine T_ild1 dX7_beginAbout_2 ?_
    refine T_ald0 dX7_beginAbout_3 ?_
    refine T_getN dX7_beginAbout_4 lf_X7_78 rfl rfl mg ?_
    refine T_cgeN (tgt := 35) dX7_beginAbout_7 (by decide) (by omega) (by omega) (fun h7 => by exfalso; omega) (fun h7 => ?_)
    refine T_ald0 dX7_beginAbout_10 ?_
    refine T_getR (q := 53) dX7_beginAbout_11 lf_X7_55 rfl rfl rfl ?_
    refine T_ild1 dX7_beginAbout_14 ?_
    refine T_ild1 dX7_beginAbout_15 ?_
    refine T_ald0 dX7_beginAbout_16 ?_
    refine T_getN dX7_beginAbout_17 lf_X7_120 rfl rfl msa ?_
    refine T_cneN (tgt := 27) dX7_beginAbout_20 (by decide) (by omega) (by omega) (fun h20 => ?_) (fun h20 => ?_)
    · refine T_lconst (v := lN 0) dX7_beginAbout_27 (by decide) ?_
      refine T_last dX7_beginAbout_28 rfl (by show _ < 8; omega) rfl ?_
      refine T_inc1N dX7_beginAbout_29 (by decide) rfl ?_
      refine T_goto (tgt := 2) dX7_beginAbout_32 (by decide) ?_
      first | (rw [lW_s (A := wkN (a 0 0) (a 3 0 / 8) (a 3 0 % 8) sy 0) (if_pos h20)]; exact ih) | (rw [lW_s (A := wkN (a 0 0) (a 3 0 / 8) (a 3 0 % 8) sy 0) (if_neg h20)]; exact ih)
    · refine T_lconst (v := lN 1) dX7_beginAbout_23 (by decide) ?_
      refine T_goto (tgt := 28) dX7_beginAbout_24 (by decide) ?_
      refine T_last dX7_beginAbout_28 rfl (by show _ < 8; omega) rfl ?_
      refine T_inc1N dX7_beginAbout_29 (by decide) rfl ?_
      refine T_goto (tgt := 2) dX7_beginAbout_32 (by decide) ?_
      first | (rw [lW_s (A := wkN (a 0 0) (a 3 0 / 8) (a 3 0 % 8) sy 0) (if_pos h20)]; exact ih) | (rw [lW_s (A := wkN (a 0 0) (a 3 0 / 8) (a 3 0 % 8) sy 0) (if_neg h20)]; exact ih)
set_option maxRecDepth 20000 in
theorem c_X7_passAbout {S : Nat → Nat → Int32} {L : Nat → Nat → Int64} {R : Nat × Nat × Nat} {d : Nat} {a : Nat → Nat → Nat} (hM : MV S a) (hW : WL a) {sy : Bool} {W : Nat → Nat} (h53 : LW L 53 (a 0 0) W) : TT mX7_passAbout (d + 1) 0 [some (.ref 37), some (.int (bI sy)), none, none] [] (S, L, R) (fun r σ' => r = none ∧ ∃ L', σ' = (S, L', R) ∧ LW L' 53 (a 0 0) (wst (a 0 0) (a 3 0 % 8) sy W (2 * a 0 0))) := by
  obtain ⟨mg, mdn, mso, msa, mpe, mrn, mgu, mdi, mre⟩ := id hM
  obtain ⟨w3, w8, wd1, wd6, wso, wb, wbs, wbp, wne, wrn, wgu, wdi, wre⟩ := id hW
  refine T_iconst (v := nI 0) dX7_passAbout_0 (by decide) ?_
  refine T_ist2 dX7_passAbout_1 (by decide) rfl ?_
  skip
  have st0 : TT mX7_passAbout (d + 1) 2 [some (.ref 37), some (.int (bI sy)), some (.int (nI 0)), none] [] (S, wfL L 54 (lW (fun _ => 0)) 0, R) (fun r σ' => r = none ∧ ∃ L', σ' = (S, L', R) ∧ LW L' 53 (a 0 0) (wst (a 0 0) (a 3 0 % 8) sy W (2 * a 0 0))) := ?_
  · rw [wfL_0] at st0; exact st0
  refine up_ind (P := fun i => TT mX7_passAbout (d + 1) 2 [some (.ref 37), some (.int (bI sy)), some (.int (nI i)), none] [] (S, wfL L 54 (lW (fun _ => 0)) i, R) (fun r σ' => r = none ∧ ∃ L', σ' = (S, L', R) ∧ LW L' 53 (a 0 0) (wst (a 0 0) (a 3 0 % 8) sy W (2 * a 0 0)))) (a 0 0) ?_ ?_
  · refine T_ild2 dX7_passAbout_2 ?_
    refine T_ald0 dX7_passAbout_3 ?_
    refine T_getN dX7_passAbout_4 lf_X7_78 rfl rfl mg ?_
    refine T_cgeN (tgt := 23) dX7_passAbout_7 (by decide) (by omega) (by omega) (fun h7 => ?_) (fun h7 => by exfalso; omega)
    refine T_iconst (v := nI 0) dX7_passAbout_23 (by decide) ?_
    refine T_ist2 dX7_passAbout_24 (by decide) rfl ?_
    skip
    refine up_ind (P := fun k => ∀ L1 x3, LW L1 54 (a 0 0) (wst (a 0 0) (a 3 0 % 8) sy W k) → LW L1 53 (a 0 0) W → TT mX7_passAbout (d + 1) 25 [some (.ref 37), some (.int (bI sy)), some (.int (nI k)), x3] [] (S, L1, R) (fun r σ' => r = none ∧ ∃ L', σ' = (S, L', R) ∧ LW L' 53 (a 0 0) (wst (a 0 0) (a 3 0 % 8) sy W (2 * a 0 0)))) (2 * a 0 0) ?_ ?_ _ none (fun i hi => wfL_i hi) (fun i hi => by rw [wfL_p (by decide)]; exact h53 i hi)
    · intro L1 x3 g3 g2
      refine T_ild2 dX7_passAbout_25 ?_
      refine T_iconst (v := nI 2) dX7_passAbout_26 (by decide) ?_
      refine T_ald0 dX7_passAbout_27 ?_
      refine T_getN dX7_passAbout_28 lf_X7_78 rfl rfl mg ?_
      refine T_imulN dX7_passAbout_31 ?_
      refine T_cgeN (tgt := 103) dX7_passAbout_32 (by decide) (by omega) (by omega) (fun h32 => ?_) (fun h32 => by exfalso; omega)
      refine T_iconst (v := nI 0) dX7_passAbout_103 (by decide) ?_
      refine T_ist2 dX7_passAbout_104 (by decide) rfl ?_
      skip
      have st1 : TT mX7_passAbout (d + 1) 105 [some (.ref 37), some (.int (bI sy)), some (.int (nI 0)), x3] [] (S, wfL L1 53 (lW (wst (a 0 0) (a 3 0 % 8) sy W (2 * a 0 0))) 0, R) (fun r σ' => r = none ∧ ∃ L', σ' = (S, L', R) ∧ LW L' 53 (a 0 0) (wst (a 0 0) (a 3 0 % 8) sy W (2 * a 0 0))) := ?_
      · rw [wfL_0] at st1; exact st1
      refine up_ind (P := fun i => TT mX7_passAbout (d + 1) 105 [some (.ref 37), some (.int (bI sy)), some (.int (nI i)), x3] [] (S, wfL L1 53 (lW (wst (a 0 0) (a 3 0 % 8) sy W (2 * a 0 0))) i, R) (fun r σ' => r = none ∧ ∃ L', σ' = (S, L', R) ∧ LW L' 53 (a 0 0) (wst (a 0 0) (a 3 0 % 8) sy W (2 * a 0 0)))) (a 0 0) ?_ ?_
      · refine T_ild2 dX7_passAbout_105 ?_
        refine T_ald0 dX7_passAbout_106 ?_
        refine T_getN dX7_passAbout_107 lf_X7_78 rfl rfl mg ?_
        refine T_cgeN (tgt := 131) dX7_passAbout_110 (by decide) (by omega) (by omega) (fun h110 => ?_) (fun h110 => by exfalso; omega)
        refine T_vret dX7_passAbout_131 rfl ?_
        exact ⟨rfl, _, rfl, fun i hi => wfL_i hi⟩
      · intro i hi ih
        refine T_ild2 dX7_passAbout_105 ?_
        refine T_ald0 dX7_passAbout_106 ?_
        refine T_getN dX7_passAbout_107 lf_X7_78 rfl rfl mg ?_
        refine T_cgeN (tgt := 131) dX7_passAbout_110 (by decide) (by omega) (by omega) (fun h110 => by exfalso; omega) (fun h110 => ?_)
        refine T_ald0 dX7_passAbout_113 ?_
        refine T_getR (q := 53) dX7_passAbout_114 lf_X7_55 rfl rfl rfl ?_
        refine T_ild2 dX7_passAbout_117 ?_
        refine T_ald0 dX7_passAbout_118 ?_
        refine T_getR (q := 54) dX7_passAbout_119 lf_X7_59 rfl rfl rfl ?_
        refine T_ild2 dX7_passAbout_122 ?_
        refine T_lald dX7_passAbout_123 rfl (by show _ < 8; omega) rfl ?_
        refine T_last dX7_passAbout_124 rfl (by show _ < 8; omega) rfl ?_
        refine T_inc2N dX7_passAbout_125 (by decide) rfl ?_
        refine T_goto (tgt := 105) dX7_passAbout_128 (by decide) ?_
        rw [show wfL L1 53 (lW (wst (a 0 0) (a 3 0 % 8) sy W (2 * a 0 0))) i 54 i = lN (wst (a 0 0) (a 3 0 % 8) sy W (2 * a 0 0) i) from (congrFun (wfL_p (by decide)) _).trans (g3 i hi), lW_s (A := wst (a 0 0) (a 3 0 % 8) sy W (2 * a 0 0)) rfl]; exact ih
    · intro k hk ih L1 x3 g3 g2
      have hk2 : k / 2 < a 0 0 := by omega
      have hr : k % 2 < 4 := by omega
      have nl := nb_lt (r := k % 2) hk2
      refine T_ild2 dX7_passAbout_25 ?_
      refine T_iconst (v := nI 2) dX7_passAbout_26 (by decide) ?_
      refine T_ald0 dX7_passAbout_27 ?_
      refine T_getN dX7_passAbout_28 lf_X7_78 rfl rfl mg ?_
      refine T_imulN dX7_passAbout_31 ?_
      refine T_cgeN (tgt := 103) dX7_passAbout_32 (by decide) (by omega) (by omega) (fun h32 => by exfalso; omega) (fun h32 => ?_)
      refine T_ald0 dX7_passAbout_35 ?_
      refine T_ild2 dX7_passAbout_36 ?_
      refine T_iconst (v := nI 2) dX7_passAbout_37 (by decide) ?_
      refine T_idivN dX7_passAbout_38 (by omega) (by omega) (by omega) ?_
      refine T_ild2 dX7_passAbout_39 ?_
      refine T_iconst (v := nI 2) dX7_passAbout_40 (by decide) ?_
      refine T_iremN dX7_passAbout_41 (by omega) (by omega) (by omega) ?_
      refine T_invV2i (M' := mX7_next) dX7_passAbout_42 ml_X7_168 imX7_next rfl (Nat.le_of_ble_eq_true rfl) rfl (Nat.le_of_ble_eq_true rfl) rfl (Nat.le_of_ble_eq_true rfl) (c_X7_next mg w8 hk2 hr) ?_
      refine T_ist3 dX7_passAbout_45 (by decide) rfl ?_
      refine T_ild3 dX7_passAbout_46 ?_
      refine T_ald0 dX7_passAbout_47 ?_
      refine T_getN dX7_passAbout_48 lf_X7_126 rfl rfl mpe ?_
      refine T_ceqN (tgt := 74) dX7_passAbout_51 (by decide) (by omega) (by omega) (fun h51 => ?_) (fun h51 => ?_)
      · refine T_ild1 dX7_passAbout_74 ?_
        refine T_ifeqB (tgt := 97) dX7_passAbout_75 (by decide) (fun h75 => ?_) (fun h75 => ?_)
        · refine T_inc2N dX7_passAbout_97 (by decide) rfl ?_
          refine T_goto (tgt := 25) dX7_passAbout_100 (by decide) ?_
          first
            | (rw [g3 _ nl, g2 _ hk2, lN_add]
               refine ih _ _ (fun j hj => ?_) (fun j hj => by rw [uL_p (by decide)]; exact g2 j hj)
               rw [wst_go rfl rfl h51]; exact LW_up g3 j hj)
            | (rw [g3 _ hk2, g2 _ hk2, lN_add]
               refine ih _ _ (fun j hj => ?_) (fun j hj => by rw [uL_p (by decide)]; exact g2 j hj)
               rw [wst_st rfl rfl h51 h75]; exact LW_up g3 j hj)
            | (refine ih _ _ (fun j hj => ?_) g2
               rw [wst_no rfl rfl h51 h75]; exact g3 j hj)
            | fail "leaf"
        · refine T_ald0 dX7_passAbout_78 ?_
          refine T_getR (q := 54) dX7_passAbout_79 lf_X7_59 rfl rfl rfl ?_
          refine T_ild2 dX7_passAbout_82 ?_
          refine T_iconst (v := nI 2) dX7_passAbout_83 (by decide) ?_
          refine T_idivN dX7_passAbout_84 (by omega) (by omega) (by omega) ?_
          refine T_dup2 dX7_passAbout_85 rfl rfl ?_
          refine T_lald dX7_passAbout_86 rfl (by show _ < 8; omega) rfl ?_
          refine T_ald0 dX7_passAbout_87 ?_
          refine T_getR (q := 53) dX7_passAbout_88 lf_X7_55 rfl rfl rfl ?_
          refine T_ild2 dX7_passAbout_91 ?_
          refine T_iconst (v := nI 2) dX7_passAbout_92 (by decide) ?_
          refine T_idivN dX7_passAbout_93 (by omega) (by omega) (by omega) ?_
          refine T_lald dX7_passAbout_94 rfl (by show _ < 8; omega) rfl ?_
          refine T_ladd dX7_passAbout_95 ?_
          refine T_last dX7_passAbout_96 rfl (by show _ < 8; omega) rfl ?_
          refine T_inc2N dX7_passAbout_97 (by decide) rfl ?_
          refine T_goto (tgt := 25) dX7_passAbout_100 (by decide) ?_
          first
            | (rw [g3 _ nl, g2 _ hk2, lN_add]
               refine ih _ _ (fun j hj => ?_) (fun j hj => by rw [uL_p (by decide)]; exact g2 j hj)
               rw [wst_go rfl rfl h51]; exact LW_up g3 j hj)
            | (rw [g3 _ hk2, g2 _ hk2, lN_add]
               refine ih _ _ (fun j hj => ?_) (fun j hj => by rw [uL_p (by decide)]; exact g2 j hj)
               rw [wst_st rfl rfl h51 h75]; exact LW_up g3 j hj)
            | (refine ih _ _ (fun j hj => ?_) g2
               rw [wst_no rfl rfl h51 h75]; exact g3 j hj)
            | fail "leaf"
      · refine T_ald0 dX7_passAbout_54 ?_
        refine T_getR (q := 54) dX7_passAbout_55 lf_X7_59 rfl rfl rfl ?_
        refine T_ild3 dX7_passAbout_58 ?_
        refine T_dup2 dX7_passAbout_59 rfl rfl ?_
        refine T_lald dX7_passAbout_60 rfl (by show _ < 8; omega) rfl ?_
        refine T_ald0 dX7_passAbout_61 ?_
        refine T_getR (q := 53) dX7_passAbout_62 lf_X7_55 rfl rfl rfl ?_
        refine T_ild2 dX7_passAbout_65 ?_
        refine T_iconst (v := nI 2) dX7_passAbout_66 (by decide) ?_
        refine T_idivN dX7_passAbout_67 (by omega) (by omega) (by omega) ?_
        refine T_lald dX7_passAbout_68 rfl (by show _ < 8; omega) rfl ?_
        refine T_ladd dX7_passAbout_69 ?_
        refine T_last dX7_passAbout_70 rfl (by show _ < 8; omega) rfl ?_
        refine T_goto (tgt := 97) dX7_passAbout_71 (by decide) ?_
        refine T_inc2N dX7_passAbout_97 (by decide) rfl ?_
        refine T_goto (tgt := 25) dX7_passAbout_100 (by decide) ?_
        first
          | (rw [g3 _ nl, g2 _ hk2, lN_add]
             refine ih _ _ (fun j hj => ?_) (fun j hj => by rw [uL_p (by decide)]; exact g2 j hj)
             rw [wst_go rfl rfl h51]; exact LW_up g3 j hj)
          | (rw [g3 _ hk2, g2 _ hk2, lN_add]
             refine ih _ _ (fun j hj => ?_) (fun j hj => by rw [uL_p (by decide)]; exact g2 j hj)
             rw [wst_st rfl rfl h51 h75]; exact LW_up g3 j hj)
          | (refine ih _ _ (fun j hj => ?_) g2
             rw [wst_no rfl rfl h51 h75]; exact g3 j hj)
          | fail "leaf"
  · intro i hi ih
    refine T_ild2 dX7_passAbout_2 ?_
    refine T_ald0 dX7_passAbout_3 ?_
    refine T_getN dX7_passAbout_4 lf_X7_78 rfl rfl mg ?_
    refine T_cgeN (tgt := 23) dX7_passAbout_7 (by decide) (by omega) (by omega) (fun h7 => by exfalso; omega) (fun h7 => ?_)
    refine T_ald0 dX7_passAbout_10 ?_
    refine T_getR (q := 54) dX7_passAbout_11 lf_X7_59 rfl rfl rfl ?_
    refine T_ild2 dX7_passAbout_14 ?_
    refine T_lconst (v := lN 0) dX7_passAbout_15 (by decide) ?_
    refine T_last dX7_passAbout_16 rfl (by show _ < 8; omega) rfl ?_
    refine T_inc2N dX7_passAbout_17 (by decide) rfl ?_
    refine T_goto (tgt := 2) dX7_passAbout_20 (by decide) ?_
    rw [lW_s (A := fun _ => 0) rfl]; exact ih
set_option maxRecDepth 20000 in
theorem c_X7_home {S : Nat → Nat → Int32} {L : Nat → Nat → Int64} {R : Nat × Nat × Nat} {d : Nat} {a : Nat → Nat → Nat} (hM : MV S a) (hWF : WFA a) {x : Int32} : TT mX7_home (d + 2) 0 [some (.ref 37), some (.int (x)), none] [] (S, L, R) (fun r σ' => ∃ L', σ' = (S, L', R) ∧ r = some (.long (aHome a x))) := by
  obtain ⟨mg, mdn, mso, msa, mpe, mrn, mgu, mdi, mre⟩ := id hM
  obtain ⟨b8, b6, b3, b64, br8⟩ := hWF.b
  refine T_ild1 dX7_home_0 ?_
  refine T_iconst (v := nI 0) dX7_home_1 (by decide) ?_
  refine T_bipush (v := nI 20) dX7_home_2 (by decide) ?_
  refine T_invS3i (M' := mX7_within) dX7_home_4 ml_X7_74 imX7_within (Nat.le_of_ble_eq_true rfl) rfl (Nat.le_of_ble_eq_true rfl) (c_within0 (n := 21) (by decide) rfl) ?_
  refine T_ifeqB (tgt := 17) dX7_home_7 (by decide) (fun h7 => ?_) (fun h7 => ?_)
  · refine T_ldc2 ct_X7_72 dX7_home_17 ?_
    refine T_lret dX7_home_20 rfl ?_
    rw [show aHome a x = LOSTV from if_neg (by first | (simp [h7]; done) | simp [h14])]; exact ⟨_, rfl, rfl⟩
  · refine T_ald0 dX7_home_10 ?_
    refine T_getN dX7_home_11 lf_X7_78 rfl rfl mg ?_
    refine T_ifneN (tgt := 21) dX7_home_14 (by decide) (by omega) (fun h14 => ?_) (fun h14 => ?_)
    · obtain ⟨n, hn, rfl⟩ := blw_t h7
      have i_n : ix (nI n) = n := ix_n (by omega)
      have hW := hWF.g (by omega)
      obtain ⟨w3, w8, wd1, wd6, wso, wb, wbs, wbp, wne, wrn, wgu, wdi, wre⟩ := id hW
      refine T_ald0 dX7_home_21 ?_
      refine T_invV0 (M' := mX7_beginAbout) dX7_home_22 ml_X7_224 imX7_beginAbout rfl (Nat.le_of_ble_eq_true rfl) rfl (Nat.le_of_ble_eq_true rfl) rfl (Nat.le_of_ble_eq_true rfl) (c_X7_beginAbout hM hW (sy := false)) (fun r σ' hq => ?_)
      obtain ⟨rfl, L0, rfl, g0⟩ := hq
      refine T_iconst (v := nI 0) dX7_home_25 (by decide) ?_
      refine T_ist2 dX7_home_26 (by decide) rfl ?_
      refine up_ind (P := fun i => ∀ L1, LW L1 53 (a 0 0) (wkN (a 0 0) (a 3 0 / 8) (a 3 0 % 8) false i) → TT mX7_home (d + 2) 27 [some (.ref 37), some (.int (nI n)), some (.int (nI i))] [] (S, L1, R) (fun r σ' => ∃ L', σ' = (S, L', R) ∧ r = some (.long (aHome a (nI n))))) n ?_ ?_ L0 g0
      · intro L1 g1
        refine T_ild2 dX7_home_27 ?_
        refine T_ild1 dX7_home_28 ?_
        refine T_cgeN (tgt := 43) dX7_home_29 (by decide) (by omega) (by omega) (fun h29 => ?_) (fun h29 => by exfalso; omega)
        refine T_ald0 dX7_home_43 ?_
        refine T_getR (q := 53) dX7_home_44 lf_X7_55 rfl rfl rfl ?_
        refine T_ald0 dX7_home_47 ?_
        refine T_getN dX7_home_48 lf_X7_120 rfl rfl msa ?_
        refine T_lald dX7_home_51 rfl (by show _ < 8; omega) rfl ?_
        refine T_lret dX7_home_52 rfl ?_
        refine ⟨_, rfl, ?_⟩
        rw [g1 _ wbs, show aHome a (nI n) = _ from if_pos (by rw [h7, decide_eq_false h14]; rfl), i_n]
      · intro i hi ih L1 g1
        refine T_ild2 dX7_home_27 ?_
        refine T_ild1 dX7_home_28 ?_
        refine T_cgeN (tgt := 43) dX7_home_29 (by decide) (by omega) (by omega) (fun h29 => by exfalso; omega) (fun h29 => ?_)
        refine T_ald0 dX7_home_32 ?_
        refine T_iconst (v := bI false) dX7_home_33 (by decide) ?_
        refine T_invV1 (M' := mX7_passAbout) dX7_home_34 ml_X7_227 imX7_passAbout rfl (Nat.le_of_ble_eq_true rfl) rfl (Nat.le_of_ble_eq_true rfl) rfl (Nat.le_of_ble_eq_true rfl) (c_X7_passAbout hM hW (sy := false) g1) (fun r σ' hq => ?_)
        obtain ⟨rfl, L2, rfl, g2⟩ := hq
        refine T_inc2N dX7_home_37 (by decide) rfl ?_
        refine T_goto (tgt := 27) dX7_home_40 (by decide) ?_
        exact ih L2 g2
    · refine T_ldc2 ct_X7_72 dX7_home_17 ?_
      refine T_lret dX7_home_20 rfl ?_
      rw [show aHome a x = LOSTV from if_neg (by first | (simp [h7]; done) | simp [h14])]; exact ⟨_, rfl, rfl⟩
set_option maxRecDepth 20000 in
theorem c_X7_inLeastTerms {S : Nat → Nat → Int32} {L : Nat → Nat → Int64} {R : Nat × Nat × Nat} {d : Nat} {n m w : Nat} (hn : n < 2 ^ 20) (hm : m < 2 ^ 20) (h0 : 0 < m) (hw : w < 2) : TT mX7_inLeastTerms (d + 0) 0 [some (.long (lN n)), none, some (.long (lN m)), none, some (.int (nI w)), none, none, none, none, none, none] [] (S, L, R) (rt (some (.long (lN (if w = 0 then n / Nat.gcd n m else m / Nat.gcd n m)))) (S, L, R)) := by
  have hgp : 0 < Nat.gcd n m := Nat.gcd_pos_of_pos_right _ h0
  have hgl : Nat.gcd n m < 2 ^ 20 := Nat.lt_of_le_of_lt (Nat.gcd_le_right _ h0) hm
  have hge : ¬ lN (Nat.gcd n m) = 0 := fun q => by have := (pk_lEQ (b := 0) (by omega) (by decide)).mp q; omega
  refine T_lld0 dX7_inLeastTerms_0 ?_
  refine T_lst5 dX7_inLeastTerms_1 (by decide) rfl ?_
  refine T_lld2 dX7_inLeastTerms_3 ?_
  refine T_lst7 dX7_inLeastTerms_4 (by decide) rfl ?_
  skip
  have key : ∀ q, ∀ x y x9, y ≤ q → x < 2 ^ 20 → y < 2 ^ 20 → Nat.gcd x y = Nat.gcd n m → TT mX7_inLeastTerms (d + 0) 6 [some (.long (lN n)), none, some (.long (lN m)), none, some (.int (nI w)), some (.long (lN x)), none, some (.long (lN y)), none, x9, none] [] (S, L, R) (rt (some (.long (lN (if w = 0 then n / Nat.gcd n m else m / Nat.gcd n m)))) (S, L, R)) := by
    intro q
    induction q with
    | zero =>
      intro x y x9 hq hx hy hg
      refine T_lld7 dX7_inLeastTerms_6 ?_
      refine T_lconst (v := lN 0) dX7_inLeastTerms_8 (by decide) ?_
      refine T_lcmp dX7_inLeastTerms_9 ?_
      refine T_ifeq (tgt := 31) dX7_inLeastTerms_10 (by decide) (fun h10 => ?_) (fun h10 => by exact absurd (lgc0.mpr (by rw [show y = 0 from Nat.le_zero.mp hq])) h10)
      have hz : y = 0 := (pk_lEQ (by omega) (by decide)).mp (lgc0.mp h10)
      have hx : x = Nat.gcd n m := by rw [← hg, hz, Nat.gcd_zero_right]
      rw [hx]
      refine T_ild4 dX7_inLeastTerms_31 ?_
      refine T_ifneN (tgt := 43) dX7_inLeastTerms_33 (by decide) (by omega) (fun h33 => ?_) (fun h33 => ?_)
      · refine T_lld2 dX7_inLeastTerms_43 ?_
        refine T_lld5 dX7_inLeastTerms_44 ?_
        refine T_ldiv dX7_inLeastTerms_46 hge ?_
        rw [pk_lDiv (by omega) hgp (by omega)]
        refine T_lret dX7_inLeastTerms_47 rfl ?_
        first | (rw [if_pos h33]; exact rt_i) | (rw [if_neg h33]; exact rt_i)
      · refine T_lld0 dX7_inLeastTerms_36 ?_
        refine T_lld5 dX7_inLeastTerms_37 ?_
        refine T_ldiv dX7_inLeastTerms_39 hge ?_
        rw [pk_lDiv (by omega) hgp (by omega)]
        refine T_goto (tgt := 47) dX7_inLeastTerms_40 (by decide) ?_
        refine T_lret dX7_inLeastTerms_47 rfl ?_
        first | (rw [if_pos h33]; exact rt_i) | (rw [if_neg h33]; exact rt_i)
    | succ q ih =>
      intro x y x9 hq hx hy hg
      refine T_lld7 dX7_inLeastTerms_6 ?_
      refine T_lconst (v := lN 0) dX7_inLeastTerms_8 (by decide) ?_
      refine T_lcmp dX7_inLeastTerms_9 ?_
      refine T_ifeq (tgt := 31) dX7_inLeastTerms_10 (by decide) (fun h10 => ?_) (fun h10 => ?_)
      · have hz : y = 0 := (pk_lEQ (by omega) (by decide)).mp (lgc0.mp h10)
        have hx : x = Nat.gcd n m := by rw [← hg, hz, Nat.gcd_zero_right]
        rw [hx]
        refine T_ild4 dX7_inLeastTerms_31 ?_
        refine T_ifneN (tgt := 43) dX7_inLeastTerms_33 (by decide) (by omega) (fun h33 => ?_) (fun h33 => ?_)
        · refine T_lld2 dX7_inLeastTerms_43 ?_
          refine T_lld5 dX7_inLeastTerms_44 ?_
          refine T_ldiv dX7_inLeastTerms_46 hge ?_
          rw [pk_lDiv (by omega) hgp (by omega)]
          refine T_lret dX7_inLeastTerms_47 rfl ?_
          first | (rw [if_pos h33]; exact rt_i) | (rw [if_neg h33]; exact rt_i)
        · refine T_lld0 dX7_inLeastTerms_36 ?_
          refine T_lld5 dX7_inLeastTerms_37 ?_
          refine T_ldiv dX7_inLeastTerms_39 hge ?_
          rw [pk_lDiv (by omega) hgp (by omega)]
          refine T_goto (tgt := 47) dX7_inLeastTerms_40 (by decide) ?_
          refine T_lret dX7_inLeastTerms_47 rfl ?_
          first | (rw [if_pos h33]; exact rt_i) | (rw [if_neg h33]; exact rt_i)
      · have y0 : y ≠ 0 := fun e => h10 (lgc0.mpr (by rw [e]))
        refine T_lld5 dX7_inLeastTerms_13 ?_
        refine T_lld7 dX7_inLeastTerms_15 ?_
        refine T_lrem dX7_inLeastTerms_17 (fun e => y0 ((pk_lEQ (b := 0) (by omega) (by decide)).mp e)) ?_
        rw [pk_lRem (by omega) (by omega) (by omega)]
        refine T_lst9 dX7_inLeastTerms_18 (by decide) rfl ?_
        refine T_lld7 dX7_inLeastTerms_20 ?_
        refine T_lst5 dX7_inLeastTerms_22 (by decide) rfl ?_
        refine T_lld9 dX7_inLeastTerms_24 ?_
        refine T_lst7 dX7_inLeastTerms_26 (by decide) rfl ?_
        refine T_goto (tgt := 6) dX7_inLeastTerms_28 (by decide) ?_
        have hlt : x % y < y := Nat.mod_lt _ (by omega)
        exact ih _ _ _ (by omega) (by omega) (by omega) (by rw [← hg, Nat.gcd_comm x y, Nat.gcd_rec y x, Nat.gcd_comm])
  exact key m n m none (Nat.le_refl _) hn hm rfl
set_option maxRecDepth 20000 in
theorem c_X7_odds {S : Nat → Nat → Int32} {L : Nat → Nat → Int64} {R : Nat × Nat × Nat} {d : Nat} {a : Nat → Nat → Nat} (hM : MV S a) (hWF : WFA a) {x y z w : Int32} : TT mX7_odds (d + 2) 0 [some (.ref 37), some (.int (x)), some (.int (y)), some (.int (z)), some (.int (w)), none, none, none] [] (S, L, R) (fun r σ' => ∃ L', σ' = (S, L', R) ∧ r = some (.long (aOdds a x y z w))) := by
  obtain ⟨mg, mdn, mso, msa, mpe, mrn, mgu, mdi, mre⟩ := id hM
  obtain ⟨b8, b6, b3, b64, br8⟩ := hWF.b
  cases hc : (blw x (a 1 0) && blw y 2 && blw z 9 && blw w 2) with
  | false =>
    refine T_ald0 dX7_odds_0 ?_
    refine T_ild1 dX7_odds_1 ?_
    refine T_invV1i (M' := mX7_isDish) dX7_odds_2 ml_X7_159 imX7_isDish rfl (Nat.le_of_ble_eq_true rfl) rfl (Nat.le_of_ble_eq_true rfl) rfl (Nat.le_of_ble_eq_true rfl) (c_X7_isDish mdn b6) ?_
    refine T_ifeqB (tgt := 35) dX7_odds_5 (by decide) (fun h5 => ?_) (fun h5 => ?_)
    · refine T_ldc2 ct_X7_72 dX7_odds_35 ?_
      refine T_lret dX7_odds_38 rfl ?_
      rw [show aOdds a x y z w = LOSTV from if_neg (by rw [hc]; decide)]; exact ⟨_, rfl, rfl⟩
    · refine T_ild2 dX7_odds_8 ?_
      refine T_invS1i (M' := mX7_isCountry) dX7_odds_9 ml_X7_162 imX7_isCountry (Nat.le_of_ble_eq_true rfl) rfl (Nat.le_of_ble_eq_true rfl) c_X7_isCountry ?_
      refine T_ifeqB (tgt := 35) dX7_odds_12 (by decide) (fun h12 => ?_) (fun h12 => ?_)
      · refine T_ldc2 ct_X7_72 dX7_odds_35 ?_
        refine T_lret dX7_odds_38 rfl ?_
        rw [show aOdds a x y z w = LOSTV from if_neg (by rw [hc]; decide)]; exact ⟨_, rfl, rfl⟩
      · refine T_ild3 dX7_odds_15 ?_
        refine T_iconst (v := nI 0) dX7_odds_16 (by decide) ?_
        refine T_bipush (v := nI 8) dX7_odds_17 (by decide) ?_
        refine T_invS3i (M' := mX7_within) dX7_odds_19 ml_X7_74 imX7_within (Nat.le_of_ble_eq_true rfl) rfl (Nat.le_of_ble_eq_true rfl) (c_within0 (n := 9) (by decide) rfl) ?_
        refine T_ifeqB (tgt := 35) dX7_odds_22 (by decide) (fun h22 => ?_) (fun h22 => ?_)
        · refine T_ldc2 ct_X7_72 dX7_odds_35 ?_
          refine T_lret dX7_odds_38 rfl ?_
          rw [show aOdds a x y z w = LOSTV from if_neg (by rw [hc]; decide)]; exact ⟨_, rfl, rfl⟩
        · refine T_ild4 dX7_odds_25 ?_
          refine T_iconst (v := nI 0) dX7_odds_27 (by decide) ?_
          refine T_iconst (v := nI 1) dX7_odds_28 (by decide) ?_
          refine T_invS3i (M' := mX7_within) dX7_odds_29 ml_X7_74 imX7_within (Nat.le_of_ble_eq_true rfl) rfl (Nat.le_of_ble_eq_true rfl) (c_within0 (n := 2) (by decide) rfl) ?_
          refine T_ifneB (tgt := 39) dX7_odds_32 (by decide) (fun h32 => ?_) (fun h32 => ?_)
          · exfalso; rw [h5, h12, h22, h32] at hc; cases hc
          · refine T_ldc2 ct_X7_72 dX7_odds_35 ?_
            refine T_lret dX7_odds_38 rfl ?_
            rw [show aOdds a x y z w = LOSTV from if_neg (by rw [hc]; decide)]; exact ⟨_, rfl, rfl⟩
  | true =>
    have hc0 := hc
    simp only [Bool.and_eq_true] at hc
    obtain ⟨⟨⟨k1, k2⟩, k3⟩, k4⟩ := hc
    obtain ⟨e, he, rfl⟩ := blw_t k1
    obtain ⟨c, hc, rfl⟩ := blw_t k2
    obtain ⟨n, hn, rfl⟩ := blw_t k3
    obtain ⟨v, hv2, rfl⟩ := blw_t k4
    have hW := hWF.d (by omega)
    obtain ⟨w3, w8, wd1, wd6, wso, wb, wbs, wbp, wne, wrn, wgu, wdi, wre⟩ := id hW
    have p2n : 2 ^ n ≤ 256 := pow_le (by omega)
    have p2p : 0 < 2 ^ n := Nat.two_pow_pos n
    have hU : sm (fun i => if who (a 0 0) (a 8 e) i (a 3 0 % 8) = nI c then wkN (a 0 0) (a 3 0 / 8) (a 3 0 % 8) true n i else 0) (a 0 0) ≤ 2 ^ n := oddU_le (a := a) (e := e) (c := c) (n := n)
    have hans : aOdds a (nI e) (nI c) (nI n) (nI v) = lN (if v = 0 then sm (fun i => if who (a 0 0) (a 8 e) i (a 3 0 % 8) = nI c then wkN (a 0 0) (a 3 0 / 8) (a 3 0 % 8) true n i else 0) (a 0 0) / Nat.gcd (sm (fun i => if who (a 0 0) (a 8 e) i (a 3 0 % 8) = nI c then wkN (a 0 0) (a 3 0 / 8) (a 3 0 % 8) true n i else 0) (a 0 0)) (2 ^ n) else 2 ^ n / Nat.gcd (sm (fun i => if who (a 0 0) (a 8 e) i (a 3 0 % 8) = nI c then wkN (a 0 0) (a 3 0 / 8) (a 3 0 % 8) true n i else 0) (a 0 0)) (2 ^ n)) := by
      refine (if_pos hc0).trans ?_
      rw [ix_n (by omega), ix_n (by omega), ix_n (by omega), show hv n (oddU a e c n) (2 ^ n) = _ from hv_gcd n hn (oddU a e c n) (by have := oddU_le (a := a) (e := e) (c := c) (n := n); omega) oddU_le]
      by_cases q : v = 0
      · rw [if_pos (by rw [q]), if_pos q]; rfl
      · rw [if_neg (fun e => q (nI_inj (by omega) (by decide) e)), if_neg q]; rfl
    refine T_ald0 dX7_odds_0 ?_
    refine T_ild1 dX7_odds_1 ?_
    refine T_invV1i (M' := mX7_isDish) dX7_odds_2 ml_X7_159 imX7_isDish rfl (Nat.le_of_ble_eq_true rfl) rfl (Nat.le_of_ble_eq_true rfl) rfl (Nat.le_of_ble_eq_true rfl) (c_X7_isDish mdn b6) ?_
    refine T_ifeqB (tgt := 35) dX7_odds_5 (by decide) (fun h5 => by rw [k1] at h5; cases h5) (fun h5 => ?_)
    refine T_ild2 dX7_odds_8 ?_
    refine T_invS1i (M' := mX7_isCountry) dX7_odds_9 ml_X7_162 imX7_isCountry (Nat.le_of_ble_eq_true rfl) rfl (Nat.le_of_ble_eq_true rfl) c_X7_isCountry ?_
    refine T_ifeqB (tgt := 35) dX7_odds_12 (by decide) (fun h12 => by rw [k2] at h12; cases h12) (fun h12 => ?_)
    refine T_ild3 dX7_odds_15 ?_
    refine T_iconst (v := nI 0) dX7_odds_16 (by decide) ?_
    refine T_bipush (v := nI 8) dX7_odds_17 (by decide) ?_
    refine T_invS3i (M' := mX7_within) dX7_odds_19 ml_X7_74 imX7_within (Nat.le_of_ble_eq_true rfl) rfl (Nat.le_of_ble_eq_true rfl) (c_within0 (n := 9) (by decide) rfl) ?_
    refine T_ifeqB (tgt := 35) dX7_odds_22 (by decide) (fun h22 => by rw [k3] at h22; cases h22) (fun h22 => ?_)
    refine T_ild4 dX7_odds_25 ?_
    refine T_iconst (v := nI 0) dX7_odds_27 (by decide) ?_
    refine T_iconst (v := nI 1) dX7_odds_28 (by decide) ?_
    refine T_invS3i (M' := mX7_within) dX7_odds_29 ml_X7_74 imX7_within (Nat.le_of_ble_eq_true rfl) rfl (Nat.le_of_ble_eq_true rfl) (c_within0 (n := 2) (by decide) rfl) ?_
    refine T_ifneB (tgt := 39) dX7_odds_32 (by decide) (fun h32 => ?_) (fun h32 => by rw [k4] at h32; cases h32)
    refine T_ald0 dX7_odds_39 ?_
    refine T_invV0 (M' := mX7_beginAbout) dX7_odds_40 ml_X7_224 imX7_beginAbout rfl (Nat.le_of_ble_eq_true rfl) rfl (Nat.le_of_ble_eq_true rfl) rfl (Nat.le_of_ble_eq_true rfl) (c_X7_beginAbout hM hW (sy := true)) (fun r σ' hq => ?_)
    obtain ⟨rfl, L0, rfl, g0⟩ := hq
    refine T_iconst (v := nI 0) dX7_odds_43 (by decide) ?_
    refine T_ist5 dX7_odds_44 (by decide) rfl ?_
    refine up_ind (P := fun i => ∀ L1, LW L1 53 (a 0 0) (wkN (a 0 0) (a 3 0 / 8) (a 3 0 % 8) true i) → TT mX7_odds (d + 2) 46 [some (.ref 37), some (.int (nI e)), some (.int (nI c)), some (.int (nI n)), some (.int (nI v)), some (.int (nI i)), none, none] [] (S, L1, R) (fun r σ' => ∃ L', σ' = (S, L', R) ∧ r = some (.long (aOdds a (nI e) (nI c) (nI n) (nI v))))) n ?_ ?_ L0 g0
    · intro L1 g1
      refine T_ild5 dX7_odds_46 ?_
      refine T_ild3 dX7_odds_48 ?_
      refine T_cgeN (tgt := 63) dX7_odds_49 (by decide) (by omega) (by omega) (fun h49 => ?_) (fun h49 => by exfalso; omega)
      refine T_lconst (v := lN 0) dX7_odds_63 (by decide) ?_
      refine T_lst5 dX7_odds_64 (by decide) rfl ?_
      refine T_iconst (v := nI 0) dX7_odds_66 (by decide) ?_
      refine T_ist7 dX7_odds_67 (by decide) rfl ?_
      refine up_ind (P := fun i => TT mX7_odds (d + 2) 69 [some (.ref 37), some (.int (nI e)), some (.int (nI c)), some (.int (nI n)), some (.int (nI v)), some (.long (lN (sm (fun i => if who (a 0 0) (a 8 e) i (a 3 0 % 8) = nI c then wkN (a 0 0) (a 3 0 / 8) (a 3 0 % 8) true n i else 0) i))), none, some (.int (nI i))] [] (S, L1, R) (fun r σ' => ∃ L', σ' = (S, L', R) ∧ r = some (.long (aOdds a (nI e) (nI c) (nI n) (nI v))))) (a 0 0) ?_ ?_
      · refine T_ild7 dX7_odds_69 ?_
        refine T_ald0 dX7_odds_71 ?_
        refine T_getN dX7_odds_72 lf_X7_78 rfl rfl mg ?_
        refine T_cgeN (tgt := 129) dX7_odds_75 (by decide) (by omega) (by omega) (fun h75 => ?_) (fun h75 => by exfalso; omega)
        refine T_lld5 dX7_odds_129 ?_
        refine T_lconst (v := lN 1) dX7_odds_131 (by decide) ?_
        refine T_ild3 dX7_odds_132 ?_
        refine T_lshl dX7_odds_133 ?_
        rw [lshl_n n (by omega)]
        refine T_ild4 dX7_odds_134 ?_
        refine T_invS3l (M' := mX7_inLeastTerms) dX7_odds_136 ml_X7_235 imX7_inLeastTerms (Nat.le_of_ble_eq_true rfl) rfl (Nat.le_of_ble_eq_true rfl) (c_X7_inLeastTerms (by omega) (by omega) (by omega) hv2) ?_
        refine T_lret dX7_odds_139 rfl ?_
        exact ⟨_, rfl, by rw [hans]⟩
      · intro i hi ih
        refine T_ild7 dX7_odds_69 ?_
        refine T_ald0 dX7_odds_71 ?_
        refine T_getN dX7_odds_72 lf_X7_78 rfl rfl mg ?_
        refine T_cgeN (tgt := 129) dX7_odds_75 (by decide) (by omega) (by omega) (fun h75 => by exfalso; omega) (fun h75 => ?_)
        refine T_lld5 dX7_odds_78 ?_
        refine T_ild7 dX7_odds_80 ?_
        refine T_ald0 dX7_odds_82 ?_
        refine T_getN dX7_odds_83 lf_X7_126 rfl rfl mpe ?_
        refine T_ceqN (tgt := 119) dX7_odds_86 (by decide) (by omega) (by omega) (fun h86 => ?_) (fun h86 => ?_)
        · refine T_lconst (v := lN 0) dX7_odds_119 (by decide) ?_
          refine T_ladd dX7_odds_120 ?_
          refine T_lst5 dX7_odds_121 (by decide) rfl ?_
          refine T_inc7N dX7_odds_123 (by decide) rfl ?_
          refine T_goto (tgt := 69) dX7_odds_126 (by decide) ?_
          first
            | (have q : sm (fun i => if who (a 0 0) (a 8 e) i (a 3 0 % 8) = nI c then wkN (a 0 0) (a 3 0 / 8) (a 3 0 % 8) true n i else 0) (i + 1) = sm (fun i => if who (a 0 0) (a 8 e) i (a 3 0 % 8) = nI c then wkN (a 0 0) (a 3 0 / 8) (a 3 0 % 8) true n i else 0) i + wkN (a 0 0) (a 3 0 / 8) (a 3 0 % 8) true n i := by
                 show sm (fun i => if who (a 0 0) (a 8 e) i (a 3 0 % 8) = nI c then wkN (a 0 0) (a 3 0 / 8) (a 3 0 % 8) true n i else 0) i + (if _ then _ else _) = _
                 rw [if_pos h106]
               rw [q] at ih
               rw [g1 i hi, lN_add]; exact ih)
            | (have q : sm (fun i => if who (a 0 0) (a 8 e) i (a 3 0 % 8) = nI c then wkN (a 0 0) (a 3 0 / 8) (a 3 0 % 8) true n i else 0) (i + 1) = sm (fun i => if who (a 0 0) (a 8 e) i (a 3 0 % 8) = nI c then wkN (a 0 0) (a 3 0 / 8) (a 3 0 % 8) true n i else 0) i := by
                 show sm (fun i => if who (a 0 0) (a 8 e) i (a 3 0 % 8) = nI c then wkN (a 0 0) (a 3 0 / 8) (a 3 0 % 8) true n i else 0) i + (if _ then _ else _) = _
                 first | (rw [if_neg h106]; rfl) | (rw [h86, wkN_p wne, ite_self]; rfl)
               rw [q] at ih
               rw [show lN (sm (fun i => if who (a 0 0) (a 8 e) i (a 3 0 % 8) = nI c then wkN (a 0 0) (a 3 0 / 8) (a 3 0 % 8) true n i else 0) i) + lN 0 = lN (sm (fun i => if who (a 0 0) (a 8 e) i (a 3 0 % 8) = nI c then wkN (a 0 0) (a 3 0 / 8) (a 3 0 % 8) true n i else 0) i) by rw [lN_add]; rfl]; exact ih)
            | fail "leaf"
        · refine T_ald0 dX7_odds_89 ?_
          refine T_ald0 dX7_odds_90 ?_
          refine T_getR (q := 44) dX7_odds_91 lf_X7_28 rfl rfl rfl ?_
          refine T_ild1 dX7_odds_94 ?_
          refine T_ialdN dX7_odds_95 rfl (by show _ < 6; omega) (mdi _ (by omega)).1 ?_
          refine T_ild7 dX7_odds_96 ?_
          refine T_ald0 dX7_odds_98 ?_
          refine T_getN dX7_odds_99 lf_X7_126 rfl rfl mpe ?_
          refine T_invV3i (M' := mX7_whoseBy) dX7_odds_102 ml_X7_149 imX7_whoseBy rfl (Nat.le_of_ble_eq_true rfl) rfl (Nat.le_of_ble_eq_true rfl) rfl (Nat.le_of_ble_eq_true rfl) (c_X7_whoseBy mg w8 (wdi e he).1 hi wbp) ?_
          refine T_ild2 dX7_odds_105 ?_
          refine T_cne (tgt := 119) dX7_odds_106 (by decide) (fun h106 => ?_) (fun h106 => ?_)
          · refine T_lconst (v := lN 0) dX7_odds_119 (by decide) ?_
            refine T_ladd dX7_odds_120 ?_
            refine T_lst5 dX7_odds_121 (by decide) rfl ?_
            refine T_inc7N dX7_odds_123 (by decide) rfl ?_
            refine T_goto (tgt := 69) dX7_odds_126 (by decide) ?_
            first
              | (have q : sm (fun i => if who (a 0 0) (a 8 e) i (a 3 0 % 8) = nI c then wkN (a 0 0) (a 3 0 / 8) (a 3 0 % 8) true n i else 0) (i + 1) = sm (fun i => if who (a 0 0) (a 8 e) i (a 3 0 % 8) = nI c then wkN (a 0 0) (a 3 0 / 8) (a 3 0 % 8) true n i else 0) i + wkN (a 0 0) (a 3 0 / 8) (a 3 0 % 8) true n i := by
                   show sm (fun i => if who (a 0 0) (a 8 e) i (a 3 0 % 8) = nI c then wkN (a 0 0) (a 3 0 / 8) (a 3 0 % 8) true n i else 0) i + (if _ then _ else _) = _
                   rw [if_pos h106]
                 rw [q] at ih
                 rw [g1 i hi, lN_add]; exact ih)
              | (have q : sm (fun i => if who (a 0 0) (a 8 e) i (a 3 0 % 8) = nI c then wkN (a 0 0) (a 3 0 / 8) (a 3 0 % 8) true n i else 0) (i + 1) = sm (fun i => if who (a 0 0) (a 8 e) i (a 3 0 % 8) = nI c then wkN (a 0 0) (a 3 0 / 8) (a 3 0 % 8) true n i else 0) i := by
                   show sm (fun i => if who (a 0 0) (a 8 e) i (a 3 0 % 8) = nI c then wkN (a 0 0) (a 3 0 / 8) (a 3 0 % 8) true n i else 0) i + (if _ then _ else _) = _
                   first | (rw [if_neg h106]; rfl) | (rw [h86, wkN_p wne, ite_self]; rfl)
                 rw [q] at ih
                 rw [show lN (sm (fun i => if who (a 0 0) (a 8 e) i (a 3 0 % 8) = nI c then wkN (a 0 0) (a 3 0 / 8) (a 3 0 % 8) true n i else 0) i) + lN 0 = lN (sm (fun i => if who (a 0 0) (a 8 e) i (a 3 0 % 8) = nI c then wkN (a 0 0) (a 3 0 / 8) (a 3 0 % 8) true n i else 0) i) by rw [lN_add]; rfl]; exact ih)
              | fail "leaf"
          · refine T_ald0 dX7_odds_109 ?_
            refine T_getR (q := 53) dX7_odds_110 lf_X7_55 rfl rfl rfl ?_
            refine T_ild7 dX7_odds_113 ?_
            refine T_lald dX7_odds_115 rfl (by show _ < 8; omega) rfl ?_
            refine T_goto (tgt := 120) dX7_odds_116 (by decide) ?_
            refine T_ladd dX7_odds_120 ?_
            refine T_lst5 dX7_odds_121 (by decide) rfl ?_
            refine T_inc7N dX7_odds_123 (by decide) rfl ?_
            refine T_goto (tgt := 69) dX7_odds_126 (by decide) ?_
            first
              | (have q : sm (fun i => if who (a 0 0) (a 8 e) i (a 3 0 % 8) = nI c then wkN (a 0 0) (a 3 0 / 8) (a 3 0 % 8) true n i else 0) (i + 1) = sm (fun i => if who (a 0 0) (a 8 e) i (a 3 0 % 8) = nI c then wkN (a 0 0) (a 3 0 / 8) (a 3 0 % 8) true n i else 0) i + wkN (a 0 0) (a 3 0 / 8) (a 3 0 % 8) true n i := by
                   show sm (fun i => if who (a 0 0) (a 8 e) i (a 3 0 % 8) = nI c then wkN (a 0 0) (a 3 0 / 8) (a 3 0 % 8) true n i else 0) i + (if _ then _ else _) = _
                   rw [if_pos h106]
                 rw [q] at ih
                 rw [g1 i hi, lN_add]; exact ih)
              | (have q : sm (fun i => if who (a 0 0) (a 8 e) i (a 3 0 % 8) = nI c then wkN (a 0 0) (a 3 0 / 8) (a 3 0 % 8) true n i else 0) (i + 1) = sm (fun i => if who (a 0 0) (a 8 e) i (a 3 0 % 8) = nI c then wkN (a 0 0) (a 3 0 / 8) (a 3 0 % 8) true n i else 0) i := by
                   show sm (fun i => if who (a 0 0) (a 8 e) i (a 3 0 % 8) = nI c then wkN (a 0 0) (a 3 0 / 8) (a 3 0 % 8) true n i else 0) i + (if _ then _ else _) = _
                   first | (rw [if_neg h106]; rfl) | (rw [h86, wkN_p wne, ite_self]; rfl)
                 rw [q] at ih
                 rw [show lN (sm (fun i => if who (a 0 0) (a 8 e) i (a 3 0 % 8) = nI c then wkN (a 0 0) (a 3 0 / 8) (a 3 0 % 8) true n i else 0) i) + lN 0 = lN (sm (fun i => if who (a 0 0) (a 8 e) i (a 3 0 % 8) = nI c then wkN (a 0 0) (a 3 0 / 8) (a 3 0 % 8) true n i else 0) i) by rw [lN_add]; rfl]; exact ih)
              | fail "leaf"
    · intro i hi ih L1 g1
      refine T_ild5 dX7_odds_46 ?_
      refine T_ild3 dX7_odds_48 ?_
      refine T_cgeN (tgt := 63) dX7_odds_49 (by decide) (by omega) (by omega) (fun h49 => by exfalso; omega) (fun h49 => ?_)
      refine T_ald0 dX7_odds_52 ?_
      refine T_iconst (v := bI true) dX7_odds_53 (by decide) ?_
      refine T_invV1 (M' := mX7_passAbout) dX7_odds_54 ml_X7_227 imX7_passAbout rfl (Nat.le_of_ble_eq_true rfl) rfl (Nat.le_of_ble_eq_true rfl) rfl (Nat.le_of_ble_eq_true rfl) (c_X7_passAbout hM hW (sy := true) g1) (fun r σ' hq => ?_)
      obtain ⟨rfl, L2, rfl, g2⟩ := hq
      refine T_inc5N dX7_odds_57 (by decide) rfl ?_
      refine T_goto (tgt := 46) dX7_odds_60 (by decide) ?_
      exact ih L2 g2
