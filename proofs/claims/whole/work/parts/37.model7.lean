/-! the reference: the plan -/
abbrev NEV : Nat := 1000000
theorem rlx_s {nx : Nat → Nat → Option Nat} {mf : Nat → Nat → Nat} {K : Nat} {lb : Nat → Nat} {b r t : Nat} (h : nx b r = some t) (h2 : lb t + (K * mf b r + 1) < lb b) : rlx nx mf K lb b r = upN lb b (lb t + (K * mf b r + 1)) ∧ rch nx mf K lb b r = true := by
  constructor
  · unfold rlx; rw [h]; exact if_pos h2
  · unfold rch; rw [h]; exact decide_eq_true h2
theorem rch_k {nx : Nat → Nat → Option Nat} {mf : Nat → Nat → Nat} {K : Nat} {lb : Nat → Nat} {b r t : Nat} (h : nx b r = some t) (h2 : ¬ lb t + (K * mf b r + 1) < lb b) : rch nx mf K lb b r = false := by
  unfold rch; rw [h]; exact decide_eq_false h2
theorem swp_k {nx : Nat → Nat → Option Nat} {mf : Nat → Nat → Nat} {K m : Nat} {lb : Nat → Nat} (h : rch nx mf K (swp nx mf K lb m) (m / 4) (m % 4) = false) : swp nx mf K lb (m + 1) = swp nx mf K lb m ∧ swc nx mf K lb (m + 1) = swc nx mf K lb m := by
  constructor
  · exact rlx_f h
  · show (rch nx mf K (swp nx mf K lb m) (m / 4) (m % 4) || swc nx mf K lb m) = _
    rw [h]; rfl
theorem swc_t {nx : Nat → Nat → Option Nat} {mf : Nat → Nat → Nat} {K m : Nat} {lb : Nat → Nat} (h : rch nx mf K (swp nx mf K lb m) (m / 4) (m % 4) = true) : swc nx mf K lb (m + 1) = true := by
  show (rch nx mf K (swp nx mf K lb m) (m / 4) (m % 4) || swc nx mf K lb m) = _
  rw [h]; rfl
theorem VAL_F {nx : Nat → Nat → Option Nat} {gl : Nat → Bool} {mf : Nat → Nat → Nat} {K F : Nat} {lb : Nat → Nat} (h : VAL nx gl mf K F lb) : ∀ x, x < 64 → lb x ≤ F := fun x hx => by
  rcases h x hx with e | e
  · omega
  · exact Nat.le_of_lt e.1
theorem mbig_D {a : Nat → Nat → Nat} (hW : WL a) : BIG (mfA a) 100 NEV := ⟨by decide, mfA_le hW, by decide⟩
theorem mbig_T : BIG (fun _ _ => 0) 100 NEV := ⟨by decide, fun _ _ => Nat.zero_le _, by decide⟩
def NW (S S' : Nat → Nat → Int32) : Prop := ∀ q, q ≠ 51 → S' q = S q
theorem NW.mv {S S' : Nat → Nat → Int32} {a : Nat → Nat → Nat} (h : NW S S') (hM : MV S a) : MV S' a := hM.cong (fun q hq => h q (by omega)) (fun k _ => by rw [h 37 (by decide)])
theorem NW.fm {S S' : Nat → Nat → Int32} (h : NW S S') : FM S S' := ⟨fun q hq => h q (by omega), by rw [h 37 (by decide)], by rw [h 37 (by decide)]⟩
set_option maxRecDepth 20000 in
theorem c_X7_isState {S : Nat → Nat → Int32} {L : Nat → Nat → Int64} {R : Nat × Nat × Nat} {d : Nat} {g : Nat} (mg : S 37 5 = nI g) (b8 : g ≤ 8) {b : Nat} (hb : b < 64) : TT mX7_isState (d + 0) 0 [some (.ref 37), some (.int (nI b)), none, none] [] (S, L, R) (rt (some (.int (bI (isB g b)))) (S, L, R)) := by
  refine T_ild1 dX7_isState_0 ?_
  refine T_bipush (v := nI 8) dX7_isState_1 (by decide) ?_
  refine T_idivN dX7_isState_3 (by omega) (by omega) (by omega) ?_
  refine T_ist2 dX7_isState_4 (by decide) rfl ?_
  refine T_ild1 dX7_isState_5 ?_
  refine T_bipush (v := nI 8) dX7_isState_6 (by decide) ?_
  refine T_iremN dX7_isState_8 (by omega) (by omega) (by omega) ?_
  refine T_ist3 dX7_isState_9 (by decide) rfl ?_
  refine T_ild2 dX7_isState_10 ?_
  refine T_ald0 dX7_isState_11 ?_
  refine T_getN dX7_isState_12 lf_X7_78 rfl rfl mg ?_
  refine T_cgeN (tgt := 35) dX7_isState_15 (by decide) (by omega) (by omega) (fun h15 => ?_) (fun h15 => ?_)
  · refine T_iconst (v := bI false) dX7_isState_35 (by decide) ?_
    refine T_bretB dX7_isState_36 rfl ?_
    first
      | (rw [show isB g b = true from isB_i h15 h23 h28]; exact rt_i)
      | (rw [show isB g b = false from Bool.eq_false_iff.mpr (fun q => by have := isB_t q; omega)]; exact rt_i)
  · refine T_ild3 dX7_isState_18 ?_
    refine T_ald0 dX7_isState_19 ?_
    refine T_getN dX7_isState_20 lf_X7_78 rfl rfl mg ?_
    refine T_cgeN (tgt := 35) dX7_isState_23 (by decide) (by omega) (by omega) (fun h23 => ?_) (fun h23 => ?_)
    · refine T_iconst (v := bI false) dX7_isState_35 (by decide) ?_
      refine T_bretB dX7_isState_36 rfl ?_
      first
        | (rw [show isB g b = true from isB_i h15 h23 h28]; exact rt_i)
        | (rw [show isB g b = false from Bool.eq_false_iff.mpr (fun q => by have := isB_t q; omega)]; exact rt_i)
    · refine T_ild2 dX7_isState_26 ?_
      refine T_ild3 dX7_isState_27 ?_
      refine T_ceqN (tgt := 35) dX7_isState_28 (by decide) (by omega) (by omega) (fun h28 => ?_) (fun h28 => ?_)
      · refine T_iconst (v := bI false) dX7_isState_35 (by decide) ?_
        refine T_bretB dX7_isState_36 rfl ?_
        first
          | (rw [show isB g b = true from isB_i h15 h23 h28]; exact rt_i)
          | (rw [show isB g b = false from Bool.eq_false_iff.mpr (fun q => by have := isB_t q; omega)]; exact rt_i)
      · refine T_iconst (v := bI true) dX7_isState_31 (by decide) ?_
        refine T_goto (tgt := 36) dX7_isState_32 (by decide) ?_
        refine T_bretB dX7_isState_36 rfl ?_
        first
          | (rw [show isB g b = true from isB_i h15 h23 h28]; exact rt_i)
          | (rw [show isB g b = false from Bool.eq_false_iff.mpr (fun q => by have := isB_t q; omega)]; exact rt_i)
set_option maxRecDepth 20000 in
theorem c_X7_costOf {S : Nat → Nat → Int32} {L : Nat → Nat → Int64} {R : Nat × Nat × Nat} {d : Nat} {a : Nat → Nat → Nat} (hM : MV S a) (hW : WL a) {b r w : Nat} (hb : b < 64) (hs : b / 8 < a 0 0) (hp : b % 8 < a 0 0) (hr : r < 4) : TT mX7_costOf (d + 2) 0 [some (.ref 37), some (.int (nI b)), some (.int (nI r)), some (.int (nI w))] [] (S, L, R) (rt (some (.int (nI (w * miN a (stand b r) + 1)))) (S, L, R)) := by
  refine T_ild3 dX7_costOf_0 ?_
  refine T_ald0 dX7_costOf_1 ?_
  refine T_ild1 dX7_costOf_2 ?_
  refine T_ild2 dX7_costOf_3 ?_
  refine T_invV2i (M' := mX7_takes) dX7_costOf_4 ml_X7_178 imX7_takes rfl (Nat.le_of_ble_eq_true rfl) rfl (Nat.le_of_ble_eq_true rfl) rfl (Nat.le_of_ble_eq_true rfl) (c_X7_takes hM hW hb hs hp hr) ?_
  refine T_imulN dX7_costOf_7 ?_
  refine T_iconst (v := nI 1) dX7_costOf_8 (by decide) ?_
  refine T_iaddN dX7_costOf_9 ?_
  refine T_iret dX7_costOf_10 rfl ?_
  exact rt_i
set_option maxRecDepth 20000 in
theorem c_X7_isGoalD {S : Nat → Nat → Int32} {L : Nat → Nat → Int64} {R : Nat × Nat × Nat} {d : Nat} {a : Nat → Nat → Nat} (hM : MV S a) (hW : WL a) {b e c : Nat} (hb : b < 64) (hs : b / 8 < a 0 0) (hp : b % 8 < a 0 0) (he : e < a 1 0) : TT mX7_isGoal (d + 2) 0 [some (.ref 37), some (.int (nI b)), some (.int (nI e)), some (.int (nI c)), none, none] [] (S, L, R) (rt (some (.int (bI (decide (who (a 0 0) (a 8 e) (b / 8) (b % 8) = nI c))))) (S, L, R)) := by
  obtain ⟨mg, mdn, mso, msa, mpe, mrn, mgu, mdi, mre⟩ := id hM
  obtain ⟨w3, w8, wd1, wd6, wso, wb, wbs, wbp, wne, wrn, wgu, wdi, wre⟩ := id hW
  refine T_ild1 dX7_isGoal_0 ?_
  refine T_bipush (v := nI 8) dX7_isGoal_1 (by decide) ?_
  refine T_idivN dX7_isGoal_3 (by omega) (by omega) (by omega) ?_
  refine T_ist4 dX7_isGoal_4 (by decide) rfl ?_
  refine T_ild1 dX7_isGoal_6 ?_
  refine T_bipush (v := nI 8) dX7_isGoal_7 (by decide) ?_
  refine T_iremN dX7_isGoal_9 (by omega) (by omega) (by omega) ?_
  refine T_ist5 dX7_isGoal_10 (by decide) rfl ?_
  refine T_ild2 dX7_isGoal_12 ?_
  refine T_bipush (v := -9) dX7_isGoal_13 (by decide) ?_
  refine T_cne (tgt := 47) dX7_isGoal_15 (by decide) (fun h15 => ?_) (fun h15 => by exact absurd h15 (nI_m9 (by omega)))
  refine T_ald0 dX7_isGoal_47 ?_
  refine T_ald0 dX7_isGoal_48 ?_
  refine T_getR (q := 44) dX7_isGoal_49 lf_X7_28 rfl rfl rfl ?_
  refine T_ild2 dX7_isGoal_52 ?_
  refine T_ialdN dX7_isGoal_53 rfl (by show _ < 6; omega) (mdi _ (by omega)).1 ?_
  refine T_ild4 dX7_isGoal_54 ?_
  refine T_ild5 dX7_isGoal_56 ?_
  refine T_invV3i (M' := mX7_whoseBy) dX7_isGoal_58 ml_X7_149 imX7_whoseBy rfl (Nat.le_of_ble_eq_true rfl) rfl (Nat.le_of_ble_eq_true rfl) rfl (Nat.le_of_ble_eq_true rfl) (c_X7_whoseBy mg w8 (wdi e he).1 hs hp) ?_
  refine T_ild3 dX7_isGoal_61 ?_
  refine T_cne (tgt := 69) dX7_isGoal_62 (by decide) (fun h62 => ?_) (fun h62 => ?_)
  · refine T_iconst (v := bI false) dX7_isGoal_69 (by decide) ?_
    refine T_bretB dX7_isGoal_70 rfl ?_
    first | (rw [decide_eq_true h62]; exact rt_i) | (rw [decide_eq_false h62]; exact rt_i)
  · refine T_iconst (v := bI true) dX7_isGoal_65 (by decide) ?_
    refine T_goto (tgt := 70) dX7_isGoal_66 (by decide) ?_
    refine T_bretB dX7_isGoal_70 rfl ?_
    first | (rw [decide_eq_true h62]; exact rt_i) | (rw [decide_eq_false h62]; exact rt_i)
set_option maxRecDepth 20000 in
theorem c_X7_isGoalT {S : Nat → Nat → Int32} {L : Nat → Nat → Int64} {R : Nat × Nat × Nat} {d : Nat} {a : Nat → Nat → Nat} (hM : MV S a) (hW : WL a) {b : Nat} {y : Int32} (hb : b < 64) (hs : b / 8 < a 0 0) (hp : b % 8 < a 0 0) : TT mX7_isGoal (d + 2) 0 [some (.ref 37), some (.int (nI b)), some (.int (-9)), some (.int (y)), none, none] [] (S, L, R) (rt (some (.int (bI (decide (land a 0 b = land a 1 b))))) (S, L, R)) := by
  obtain ⟨mg, mdn, mso, msa, mpe, mrn, mgu, mdi, mre⟩ := id hM
  obtain ⟨w3, w8, wd1, wd6, wso, wb, wbs, wbp, wne, wrn, wgu, wdi, wre⟩ := id hW
  have l0 := land_le (c := 0) (b := b) hW
  have l1 := land_le (c := 1) (b := b) hW
  refine T_ild1 dX7_isGoal_0 ?_
  refine T_bipush (v := nI 8) dX7_isGoal_1 (by decide) ?_
  refine T_idivN dX7_isGoal_3 (by omega) (by omega) (by omega) ?_
  refine T_ist4 dX7_isGoal_4 (by decide) rfl ?_
  refine T_ild1 dX7_isGoal_6 ?_
  refine T_bipush (v := nI 8) dX7_isGoal_7 (by decide) ?_
  refine T_iremN dX7_isGoal_9 (by omega) (by omega) (by omega) ?_
  refine T_ist5 dX7_isGoal_10 (by decide) rfl ?_
  refine T_ild2 dX7_isGoal_12 ?_
  refine T_bipush (v := -9) dX7_isGoal_13 (by decide) ?_
  refine T_cne (tgt := 47) dX7_isGoal_15 (by decide) (fun h15 => by exact absurd rfl h15) (fun h15 => ?_)
  refine T_ald0 dX7_isGoal_18 ?_
  refine T_iconst (v := nI 0) dX7_isGoal_19 (by decide) ?_
  refine T_ild4 dX7_isGoal_20 ?_
  refine T_ild5 dX7_isGoal_22 ?_
  refine T_invV3i (M' := mX7_landBy) dX7_isGoal_24 ml_X7_165 imX7_landBy rfl (Nat.le_of_ble_eq_true rfl) rfl (Nat.le_of_ble_eq_true rfl) rfl (Nat.le_of_ble_eq_true rfl) (c_X7_landBy hM hW hb hs hp) ?_
  refine T_ald0 dX7_isGoal_27 ?_
  refine T_iconst (v := nI 1) dX7_isGoal_28 (by decide) ?_
  refine T_ild4 dX7_isGoal_29 ?_
  refine T_ild5 dX7_isGoal_31 ?_
  refine T_invV3i (M' := mX7_landBy) dX7_isGoal_33 ml_X7_165 imX7_landBy rfl (Nat.le_of_ble_eq_true rfl) rfl (Nat.le_of_ble_eq_true rfl) rfl (Nat.le_of_ble_eq_true rfl) (c_X7_landBy hM hW hb hs hp) ?_
  refine T_cneN (tgt := 43) dX7_isGoal_36 (by decide) (by omega) (by omega) (fun h36 => ?_) (fun h36 => ?_)
  · refine T_iconst (v := bI false) dX7_isGoal_43 (by decide) ?_
    refine T_goto (tgt := 70) dX7_isGoal_44 (by decide) ?_
    refine T_bretB dX7_isGoal_70 rfl ?_
    first | (rw [decide_eq_true h36]; exact rt_i) | (rw [decide_eq_false h36]; exact rt_i)
  · refine T_iconst (v := bI true) dX7_isGoal_39 (by decide) ?_
    refine T_goto (tgt := 70) dX7_isGoal_40 (by decide) ?_
    refine T_bretB dX7_isGoal_70 rfl ?_
    first | (rw [decide_eq_true h36]; exact rt_i) | (rw [decide_eq_false h36]; exact rt_i)
set_option maxRecDepth 20000 in
theorem c_X7_findLeft {S : Nat → Nat → Int32} {L : Nat → Nat → Int64} {R : Nat × Nat × Nat} {d : Nat} {a : Nat → Nat → Nat} (hM : MV S a) (hW : WL a) {x y : Int32} {w : Nat} {mf : Nat → Nat → Nat} {gl : Nat → Bool} (hw : w ≤ 100) (hgB : ∀ b, gl b = true → isB (a 0 0) b = true) (hG : ∀ S1 b, MV S1 a → b < 64 → isB (a 0 0) b = true → TT mX7_isGoal (d + 2) 0 [some (.ref 37), some (.int (nI b)), some (.int x), some (.int y), none, none] [] (S1, L, R) (rt (some (.int (bI (gl b)))) (S1, L, R))) (hmf : ∀ b r, isB (a 0 0) b = true → r < 4 → w * miN a (stand b r) = 100 * mf b r) (hB : BIG mf 100 NEV) : TT mX7_findLeft (d + 3) 0 [some (.ref 37), some (.int (x)), some (.int (y)), some (.int (nI w)), none, none, none, none] [] (S, L, R) (fun r σ' => r = none ∧ ∃ S' lb, σ' = (S', L, R) ∧ NW S S' ∧ LB S' 51 lb ∧ FIN (nxA a) gl mf 100 NEV lb ∧ ∀ x, x < 64 → lb x ≤ NEV) := by
  obtain ⟨mg, mdn, mso, msa, mpe, mrn, mgu, mdi, mre⟩ := id hM
  obtain ⟨w3, w8, wd1, wd6, wso, wb, wbs, wbp, wne, wrn, wgu, wdi, wre⟩ := id hW
  have hNEV : NEV = 1000000 := rfl
  refine T_iconst (v := nI 0) dX7_findLeft_0 (by decide) ?_
  refine T_ist4 dX7_findLeft_1 (by decide) rfl ?_
  skip
  have hMi : ∀ i, MV (wf S 51 (fun b => nI (lb0 gl NEV b)) i) a := fun i => NW.mv (fun q hq => wf_p hq) hM
  have st0 : TT mX7_findLeft (d + 3) 3 [some (.ref 37), some (.int (x)), some (.int (y)), some (.int (nI w)), some (.int (nI 0)), none, none, none] [] (wf S 51 (fun b => nI (lb0 gl NEV b)) 0, L, R) (fun r σ' => r = none ∧ ∃ S' lb, σ' = (S', L, R) ∧ NW S S' ∧ LB S' 51 lb ∧ FIN (nxA a) gl mf 100 NEV lb ∧ ∀ x, x < 64 → lb x ≤ NEV) := ?_
  · rw [wf_0] at st0; exact st0
  refine up_ind (P := fun i => TT mX7_findLeft (d + 3) 3 [some (.ref 37), some (.int (x)), some (.int (y)), some (.int (nI w)), some (.int (nI i)), none, none, none] [] (wf S 51 (fun b => nI (lb0 gl NEV b)) i, L, R) (fun r σ' => r = none ∧ ∃ S' lb, σ' = (S', L, R) ∧ NW S S' ∧ LB S' 51 lb ∧ FIN (nxA a) gl mf 100 NEV lb ∧ ∀ x, x < 64 → lb x ≤ NEV)) 64 ?_ ?_
  · refine T_ild4 dX7_findLeft_3 ?_
    refine T_bipush (v := nI 64) dX7_findLeft_5 (by decide) ?_
    refine T_cgeN (tgt := 49) dX7_findLeft_7 (by decide) (by omega) (by omega) (fun h7 => ?_) (fun h7 => by exfalso; omega)
    refine T_iconst (v := bI true) dX7_findLeft_49 (by decide) ?_
    refine T_ist4 dX7_findLeft_50 (by decide) rfl ?_
    skip
    have hok : GOK (nxA a) := nxA_ok w8
    have hex : ∀ lb S1 x5 x6 x7, NW S S1 → LB S1 51 lb → VAL (nxA a) gl mf 100 NEV lb → FIN (nxA a) gl mf 100 NEV lb → TT mX7_findLeft (d + 3) 52 [some (.ref 37), some (.int (x)), some (.int (y)), some (.int (nI w)), some (.int (bI false)), x5, x6, x7] [] (S1, L, R) (fun r σ' => r = none ∧ ∃ S' lb, σ' = (S', L, R) ∧ NW S S' ∧ LB S' 51 lb ∧ FIN (nxA a) gl mf 100 NEV lb ∧ ∀ x, x < 64 → lb x ≤ NEV) := by
      intro lb S1 x5 x6 x7 hN hL hV hf
      refine T_ild4 dX7_findLeft_52 ?_
      refine T_ifeqB (tgt := 177) dX7_findLeft_54 (by decide) (fun h54 => ?_) (fun h54 => by cases h54)
      refine T_vret dX7_findLeft_177 rfl ?_
      exact ⟨rfl, S1, lb, rfl, hN, hL, hf, VAL_F hV⟩
    have key : ∀ N lb S1 x5 x6 x7, nonf (nxA a) gl mf 100 NEV lb 64 < N → NW S S1 → LB S1 51 lb → VAL (nxA a) gl mf 100 NEV lb → (∀ b, b < 64 → gl b = true → lb b = 0) → TT mX7_findLeft (d + 3) 52 [some (.ref 37), some (.int (x)), some (.int (y)), some (.int (nI w)), some (.int (bI true)), x5, x6, x7] [] (S1, L, R) (fun r σ' => r = none ∧ ∃ S' lb, σ' = (S', L, R) ∧ NW S S' ∧ LB S' 51 lb ∧ FIN (nxA a) gl mf 100 NEV lb ∧ ∀ x, x < 64 → lb x ≤ NEV) := by
      intro N
      induction N with
      | zero => intro lb S1 x5 x6 x7 h; exact absurd h (Nat.not_lt_zero _)
      | succ N ihN =>
        intro lb S1 x5 x6 x7 hno hN1 hL1 hV hg
        refine T_ild4 dX7_findLeft_52 ?_
        refine T_ifeqB (tgt := 177) dX7_findLeft_54 (by decide) (fun h54 => by cases h54) (fun h54 => ?_)
        refine T_iconst (v := bI false) dX7_findLeft_57 (by decide) ?_
        refine T_ist4 dX7_findLeft_58 (by decide) rfl ?_
        refine T_iconst (v := nI 0) dX7_findLeft_60 (by decide) ?_
        refine T_ist5 dX7_findLeft_61 (by decide) rfl ?_
        skip
        refine up_ind (P := fun m => ∀ S2 x6 x7, NW S S2 → LB S2 51 (swp (nxA a) mf 100 lb m) → TT mX7_findLeft (d + 3) 63 [some (.ref 37), some (.int (x)), some (.int (y)), some (.int (nI w)), some (.int (bI (swc (nxA a) mf 100 lb m))), some (.int (nI m)), x6, x7] [] (S2, L, R) (fun r σ' => r = none ∧ ∃ S' lb, σ' = (S', L, R) ∧ NW S S' ∧ LB S' 51 lb ∧ FIN (nxA a) gl mf 100 NEV lb ∧ ∀ x, x < 64 → lb x ≤ NEV)) 256 ?_ ?_ S1 x6 x7 hN1 hL1
        · intro S2 x6 x7 hN2 hL2
          refine T_ild5 dX7_findLeft_63 ?_
          refine T_sipush (v := nI 256) dX7_findLeft_65 (by decide) ?_
          refine T_cgeN (tgt := 174) dX7_findLeft_68 (by decide) (by omega) (by omega) (fun h68 => ?_) (fun h68 => by exfalso; omega)
          refine T_goto (tgt := 52) dX7_findLeft_174 (by decide) ?_
          skip
          cases hs : swc (nxA a) mf 100 lb 256 with
          | false =>
            have e := swc_f 256 hs
            rw [e] at hL2
            exact hex lb S2 _ _ _ hN2 hL2 hV (swp_fin hok hB hV hg hs)
          | true =>
            refine ihN (swp (nxA a) mf 100 lb 256) S2 _ _ _ (Nat.lt_of_lt_of_le (swp_down hok hB hV hg (Nat.pos_of_ne_zero (fun q => ?_))) (Nat.lt_succ_iff.mp hno)) hN2 hL2 (swp_val hok hV 256 (Nat.le_refl _)) (swp_goal hg 256)
            have := (nochg hok hB hV (nonf_0 64 q) 256 (Nat.le_refl _)).2
            rw [hs] at this; cases this
        · intro m hm ih S2 x6 x7 hN2 hL2
          have hM2 := NW.mv hN2 hM
          have hF2 := VAL_F (swp_val hok hV m (by omega))
          have hm4 : m / 4 < 64 := by omega
          have hr4 : m % 4 < 4 := by omega
          cases hb : isB (a 0 0) (m / 4) with
          | false =>
            have hr0 : rch (nxA a) mf 100 (swp (nxA a) mf 100 lb m) (m / 4) (m % 4) = false := rch_n (if_neg (by rw [hb]; decide))
            refine T_ild5 dX7_findLeft_63 ?_
            refine T_sipush (v := nI 256) dX7_findLeft_65 (by decide) ?_
            refine T_cgeN (tgt := 174) dX7_findLeft_68 (by decide) (by omega) (by omega) (fun h68 => by exfalso; omega) (fun h68 => ?_)
            refine T_ild5 dX7_findLeft_71 ?_
            refine T_iconst (v := nI 4) dX7_findLeft_73 (by decide) ?_
            refine T_idivN dX7_findLeft_74 (by omega) (by omega) (by omega) ?_
            refine T_ist6 dX7_findLeft_75 (by decide) rfl ?_
            refine T_ald0 dX7_findLeft_77 ?_
            refine T_ild6 dX7_findLeft_78 ?_
            refine T_invV1i (M' := mX7_isState) dX7_findLeft_80 ml_X7_184 imX7_isState rfl (Nat.le_of_ble_eq_true rfl) rfl (Nat.le_of_ble_eq_true rfl) rfl (Nat.le_of_ble_eq_true rfl) (c_X7_isState hM2.1 w8 (by omega)) ?_
            refine T_ifeqB (tgt := 99) dX7_findLeft_83 (by decide) (fun h83 => ?_) (fun h83 => by rw [hb] at h83; cases h83)
            refine T_bipush (v := -9) dX7_findLeft_99 (by decide) ?_
            refine T_ist7 dX7_findLeft_101 (by decide) rfl ?_
            refine T_ild7 dX7_findLeft_103 ?_
            refine T_bipush (v := -9) dX7_findLeft_105 (by decide) ?_
            refine T_ceq (tgt := 168) dX7_findLeft_107 (by decide) (fun h107 => ?_) (fun h107 => by exact absurd rfl h107)
            refine T_inc5N dX7_findLeft_168 (by decide) rfl ?_
            refine T_goto (tgt := 63) dX7_findLeft_171 (by decide) ?_
            obtain ⟨e1, e2⟩ := swp_k hr0
            rw [e1, e2] at ih; exact ih _ _ _ hN2 hL2
          | true =>
            have hbt := isB_t hb
            have hnx := nxA_B (a := a) (r := m % 4) hb
            have cC := c_X7_costOf (L := L) (R := R) (d := d) (w := w) hM2 hW hm4 hbt.1 hbt.2.1 hr4
            rw [hmf _ _ hb hr4] at cC
            have hml := hB.2.1 (m / 4) (m % 4)
            cases hbe : beh (a 0 0) (m / 4) (m % 4) with
            | none =>
              rw [hbe] at hnx
              have hr0 : rch (nxA a) mf 100 (swp (nxA a) mf 100 lb m) (m / 4) (m % 4) = false := rch_n hnx
              refine T_ild5 dX7_findLeft_63 ?_
              refine T_sipush (v := nI 256) dX7_findLeft_65 (by decide) ?_
              refine T_cgeN (tgt := 174) dX7_findLeft_68 (by decide) (by omega) (by omega) (fun h68 => by exfalso; omega) (fun h68 => ?_)
              refine T_ild5 dX7_findLeft_71 ?_
              refine T_iconst (v := nI 4) dX7_findLeft_73 (by decide) ?_
              refine T_idivN dX7_findLeft_74 (by omega) (by omega) (by omega) ?_
              refine T_ist6 dX7_findLeft_75 (by decide) rfl ?_
              refine T_ald0 dX7_findLeft_77 ?_
              refine T_ild6 dX7_findLeft_78 ?_
              refine T_invV1i (M' := mX7_isState) dX7_findLeft_80 ml_X7_184 imX7_isState rfl (Nat.le_of_ble_eq_true rfl) rfl (Nat.le_of_ble_eq_true rfl) rfl (Nat.le_of_ble_eq_true rfl) (c_X7_isState hM2.1 w8 (by omega)) ?_
              refine T_ifeqB (tgt := 99) dX7_findLeft_83 (by decide) (fun h83 => by rw [hb] at h83; cases h83) (fun h83 => ?_)
              refine T_ald0 dX7_findLeft_86 ?_
              refine T_ild6 dX7_findLeft_87 ?_
              refine T_ild5 dX7_findLeft_89 ?_
              refine T_iconst (v := nI 4) dX7_findLeft_91 (by decide) ?_
              refine T_iremN dX7_findLeft_92 (by omega) (by omega) (by omega) ?_
              refine T_invV2i (M' := mX7_behind) dX7_findLeft_93 ml_X7_175 imX7_behind rfl (Nat.le_of_ble_eq_true rfl) rfl (Nat.le_of_ble_eq_true rfl) rfl (Nat.le_of_ble_eq_true rfl) (c_mb_n hM2.1 w8 hm4 hbt.1 hbt.2.1 hr4 hbe) ?_
              refine T_goto (tgt := 101) dX7_findLeft_96 (by decide) ?_
              refine T_ist7 dX7_findLeft_101 (by decide) rfl ?_
              refine T_ild7 dX7_findLeft_103 ?_
              refine T_bipush (v := -9) dX7_findLeft_105 (by decide) ?_
              refine T_ceq (tgt := 168) dX7_findLeft_107 (by decide) (fun h107 => ?_) (fun h107 => by exact absurd rfl h107)
              refine T_inc5N dX7_findLeft_168 (by decide) rfl ?_
              refine T_goto (tgt := 63) dX7_findLeft_171 (by decide) ?_
              obtain ⟨e1, e2⟩ := swp_k hr0
              rw [e1, e2] at ih; exact ih _ _ _ hN2 hL2
            | some t =>
              rw [hbe] at hnx
              have ht := (beh_some w8 hbt.1 hbt.2.1 hbe).1
              have f1 := hF2 t ht
              have f2 := hF2 _ hm4
              refine T_ild5 dX7_findLeft_63 ?_
              refine T_sipush (v := nI 256) dX7_findLeft_65 (by decide) ?_
              refine T_cgeN (tgt := 174) dX7_findLeft_68 (by decide) (by omega) (by omega) (fun h68 => by exfalso; omega) (fun h68 => ?_)
              refine T_ild5 dX7_findLeft_71 ?_
              refine T_iconst (v := nI 4) dX7_findLeft_73 (by decide) ?_
              refine T_idivN dX7_findLeft_74 (by omega) (by omega) (by omega) ?_
              refine T_ist6 dX7_findLeft_75 (by decide) rfl ?_
              refine T_ald0 dX7_findLeft_77 ?_
              refine T_ild6 dX7_findLeft_78 ?_
              refine T_invV1i (M' := mX7_isState) dX7_findLeft_80 ml_X7_184 imX7_isState rfl (Nat.le_of_ble_eq_true rfl) rfl (Nat.le_of_ble_eq_true rfl) rfl (Nat.le_of_ble_eq_true rfl) (c_X7_isState hM2.1 w8 (by omega)) ?_
              refine T_ifeqB (tgt := 99) dX7_findLeft_83 (by decide) (fun h83 => by rw [hb] at h83; cases h83) (fun h83 => ?_)
              refine T_ald0 dX7_findLeft_86 ?_
              refine T_ild6 dX7_findLeft_87 ?_
              refine T_ild5 dX7_findLeft_89 ?_
              refine T_iconst (v := nI 4) dX7_findLeft_91 (by decide) ?_
              refine T_iremN dX7_findLeft_92 (by omega) (by omega) (by omega) ?_
              refine T_invV2i (M' := mX7_behind) dX7_findLeft_93 ml_X7_175 imX7_behind rfl (Nat.le_of_ble_eq_true rfl) rfl (Nat.le_of_ble_eq_true rfl) rfl (Nat.le_of_ble_eq_true rfl) (c_mb_s hM2.1 w8 hm4 hbt.1 hbt.2.1 hr4 hbe) ?_
              refine T_goto (tgt := 101) dX7_findLeft_96 (by decide) ?_
              refine T_ist7 dX7_findLeft_101 (by decide) rfl ?_
              refine T_ild7 dX7_findLeft_103 ?_
              refine T_bipush (v := -9) dX7_findLeft_105 (by decide) ?_
              refine T_ceq (tgt := 168) dX7_findLeft_107 (by decide) (fun h107 => by exact absurd h107 (nI_m9 (by omega))) (fun h107 => ?_)
              refine T_ald0 dX7_findLeft_110 ?_
              refine T_getR (q := 51) dX7_findLeft_111 lf_X7_49 rfl rfl rfl ?_
              refine T_ild7 dX7_findLeft_114 ?_
              refine T_ialdN dX7_findLeft_116 rfl (by show _ < 64; omega) (hL2 _ (by omega)) ?_
              refine T_ald0 dX7_findLeft_117 ?_
              refine T_ild6 dX7_findLeft_118 ?_
              refine T_ild5 dX7_findLeft_120 ?_
              refine T_iconst (v := nI 4) dX7_findLeft_122 (by decide) ?_
              refine T_iremN dX7_findLeft_123 (by omega) (by omega) (by omega) ?_
              refine T_ild3 dX7_findLeft_124 ?_
              refine T_invV3i (M' := mX7_costOf) dX7_findLeft_125 ml_X7_191 imX7_costOf rfl (Nat.le_of_ble_eq_true rfl) rfl (Nat.le_of_ble_eq_true rfl) rfl (Nat.le_of_ble_eq_true rfl) cC ?_
              refine T_iaddN dX7_findLeft_128 ?_
              refine T_ald0 dX7_findLeft_129 ?_
              refine T_getR (q := 51) dX7_findLeft_130 lf_X7_49 rfl rfl rfl ?_
              refine T_ild6 dX7_findLeft_133 ?_
              refine T_ialdN dX7_findLeft_135 rfl (by show _ < 64; omega) (hL2 _ (by omega)) ?_
              refine T_cgeN (tgt := 168) dX7_findLeft_136 (by decide) (by omega) (by omega) (fun h136 => ?_) (fun h136 => ?_)
              · refine T_inc5N dX7_findLeft_168 (by decide) rfl ?_
                refine T_goto (tgt := 63) dX7_findLeft_171 (by decide) ?_
                first
                  | (have hr0 : rch (nxA a) mf 100 (swp (nxA a) mf 100 lb m) (m / 4) (m % 4) = false := rch_k hnx (by omega)
                     obtain ⟨e1, e2⟩ := swp_k hr0
                     rw [e1, e2] at ih; exact ih _ _ _ hN2 hL2)
                  | (obtain ⟨e1, e2⟩ := rlx_s (K := 100) (mf := mf) (lb := swp (nxA a) mf 100 lb m) hnx (by omega)
                     rw [swc_t e2, show swp (nxA a) mf 100 lb (m + 1) = _ from e1] at ih
                     exact ih _ _ _ (fun q hq => by rw [uI_p hq]; exact hN2 q hq) (LB_up hL2))
                  | fail "leaf"
              · refine T_ald0 dX7_findLeft_139 ?_
                refine T_getR (q := 51) dX7_findLeft_140 lf_X7_49 rfl rfl rfl ?_
                refine T_ild6 dX7_findLeft_143 ?_
                refine T_ald0 dX7_findLeft_145 ?_
                refine T_getR (q := 51) dX7_findLeft_146 lf_X7_49 rfl rfl rfl ?_
                refine T_ild7 dX7_findLeft_149 ?_
                refine T_ialdN dX7_findLeft_151 rfl (by show _ < 64; omega) (hL2 _ (by omega)) ?_
                refine T_ald0 dX7_findLeft_152 ?_
                refine T_ild6 dX7_findLeft_153 ?_
                refine T_ild5 dX7_findLeft_155 ?_
                refine T_iconst (v := nI 4) dX7_findLeft_157 (by decide) ?_
                refine T_iremN dX7_findLeft_158 (by omega) (by omega) (by omega) ?_
                refine T_ild3 dX7_findLeft_159 ?_
                refine T_invV3i (M' := mX7_costOf) dX7_findLeft_160 ml_X7_191 imX7_costOf rfl (Nat.le_of_ble_eq_true rfl) rfl (Nat.le_of_ble_eq_true rfl) rfl (Nat.le_of_ble_eq_true rfl) cC ?_
                refine T_iaddN dX7_findLeft_163 ?_
                refine T_iast dX7_findLeft_164 rfl (by show _ < 64; omega) rfl ?_
                refine T_iconst (v := bI true) dX7_findLeft_165 (by decide) ?_
                refine T_ist4 dX7_findLeft_166 (by decide) rfl ?_
                refine T_inc5N dX7_findLeft_168 (by decide) rfl ?_
                refine T_goto (tgt := 63) dX7_findLeft_171 (by decide) ?_
                first
                  | (have hr0 : rch (nxA a) mf 100 (swp (nxA a) mf 100 lb m) (m / 4) (m % 4) = false := rch_k hnx (by omega)
                     obtain ⟨e1, e2⟩ := swp_k hr0
                     rw [e1, e2] at ih; exact ih _ _ _ hN2 hL2)
                  | (obtain ⟨e1, e2⟩ := rlx_s (K := 100) (mf := mf) (lb := swp (nxA a) mf 100 lb m) hnx (by omega)
                     rw [swc_t e2, show swp (nxA a) mf 100 lb (m + 1) = _ from e1] at ih
                     exact ih _ _ _ (fun q hq => by rw [uI_p hq]; exact hN2 q hq) (LB_up hL2))
                  | fail "leaf"
    exact key 65 (lb0 gl NEV) _ _ _ _ (Nat.lt_succ_iff.mpr (nonf_le 64)) (fun q hq => wf_p hq) (fun b hb => wf_i hb) (val_0 (by decide)) (fun b _ h => if_pos h)
  · intro i hi ih
    cases hb : isB (a 0 0) i with
    | false =>
      have e2 : uI (wf S 51 (fun b => nI (lb0 gl NEV b)) i) 51 i (nI NEV) = wf S 51 (fun b => nI (lb0 gl NEV b)) (i + 1) := by
        rw [← wf_s (f := fun b => nI (lb0 gl NEV b)), show lb0 gl NEV i = NEV from if_neg (fun q => by rw [hgB i q] at hb; cases hb)]
      refine T_ild4 dX7_findLeft_3 ?_
      refine T_bipush (v := nI 64) dX7_findLeft_5 (by decide) ?_
      refine T_cgeN (tgt := 49) dX7_findLeft_7 (by decide) (by omega) (by omega) (fun h7 => by exfalso; omega) (fun h7 => ?_)
      refine T_ald0 dX7_findLeft_10 ?_
      refine T_getR (q := 51) dX7_findLeft_11 lf_X7_49 rfl rfl rfl ?_
      refine T_ild4 dX7_findLeft_14 ?_
      refine T_ald0 dX7_findLeft_16 ?_
      refine T_ild4 dX7_findLeft_17 ?_
      refine T_invV1i (M' := mX7_isState) dX7_findLeft_19 ml_X7_184 imX7_isState rfl (Nat.le_of_ble_eq_true rfl) rfl (Nat.le_of_ble_eq_true rfl) rfl (Nat.le_of_ble_eq_true rfl) (c_X7_isState (hMi i).1 w8 hi) ?_
      refine T_ifeqB (tgt := 40) dX7_findLeft_22 (by decide) (fun h22 => ?_) (fun h22 => by rw [hb] at h22; cases h22)
      refine T_ldc ct_X7_190 dX7_findLeft_40 ?_
      rw [show (1000000 : Int32) = nI NEV by decide]
      refine T_iast dX7_findLeft_42 rfl (by show _ < 64; omega) rfl ?_
      refine T_inc4N dX7_findLeft_43 (by decide) rfl ?_
      refine T_goto (tgt := 3) dX7_findLeft_46 (by decide) ?_
      rw [e2]; exact ih
    | true =>
      refine T_ild4 dX7_findLeft_3 ?_
      refine T_bipush (v := nI 64) dX7_findLeft_5 (by decide) ?_
      refine T_cgeN (tgt := 49) dX7_findLeft_7 (by decide) (by omega) (by omega) (fun h7 => by exfalso; omega) (fun h7 => ?_)
      refine T_ald0 dX7_findLeft_10 ?_
      refine T_getR (q := 51) dX7_findLeft_11 lf_X7_49 rfl rfl rfl ?_
      refine T_ild4 dX7_findLeft_14 ?_
      refine T_ald0 dX7_findLeft_16 ?_
      refine T_ild4 dX7_findLeft_17 ?_
      refine T_invV1i (M' := mX7_isState) dX7_findLeft_19 ml_X7_184 imX7_isState rfl (Nat.le_of_ble_eq_true rfl) rfl (Nat.le_of_ble_eq_true rfl) rfl (Nat.le_of_ble_eq_true rfl) (c_X7_isState (hMi i).1 w8 hi) ?_
      refine T_ifeqB (tgt := 40) dX7_findLeft_22 (by decide) (fun h22 => by rw [hb] at h22; cases h22) (fun h22 => ?_)
      refine T_ald0 dX7_findLeft_25 ?_
      refine T_ild4 dX7_findLeft_26 ?_
      refine T_ild1 dX7_findLeft_28 ?_
      refine T_ild2 dX7_findLeft_29 ?_
      refine T_invV3i (M' := mX7_isGoal) dX7_findLeft_30 ml_X7_187 imX7_isGoal rfl (Nat.le_of_ble_eq_true rfl) rfl (Nat.le_of_ble_eq_true rfl) rfl (Nat.le_of_ble_eq_true rfl) (hG _ i (hMi i) hi hb) ?_
      refine T_ifeqB (tgt := 40) dX7_findLeft_33 (by decide) (fun h33 => ?_) (fun h33 => ?_)
      · refine T_ldc ct_X7_190 dX7_findLeft_40 ?_
        rw [show (1000000 : Int32) = nI NEV by decide]
        refine T_iast dX7_findLeft_42 rfl (by show _ < 64; omega) rfl ?_
        refine T_inc4N dX7_findLeft_43 (by decide) rfl ?_
        refine T_goto (tgt := 3) dX7_findLeft_46 (by decide) ?_
        first
          | (have e2 : uI (wf S 51 (fun b => nI (lb0 gl NEV b)) i) 51 i (nI NEV) = wf S 51 (fun b => nI (lb0 gl NEV b)) (i + 1) := by
               rw [← wf_s (f := fun b => nI (lb0 gl NEV b)), show lb0 gl NEV i = NEV from if_neg (by rw [h33]; decide)]
             rw [e2]; exact ih)
          | (have e2 : uI (wf S 51 (fun b => nI (lb0 gl NEV b)) i) 51 i (nI 0) = wf S 51 (fun b => nI (lb0 gl NEV b)) (i + 1) := by
               rw [← wf_s (f := fun b => nI (lb0 gl NEV b)), show lb0 gl NEV i = 0 from if_pos h33]
             rw [e2]; exact ih)
          | fail "leaf"
      · refine T_iconst (v := nI 0) dX7_findLeft_36 (by decide) ?_
        refine T_goto (tgt := 42) dX7_findLeft_37 (by decide) ?_
        refine T_iast dX7_findLeft_42 rfl (by show _ < 64; omega) rfl ?_
        refine T_inc4N dX7_findLeft_43 (by decide) rfl ?_
        refine T_goto (tgt := 3) dX7_findLeft_46 (by decide) ?_
        first
          | (have e2 : uI (wf S 51 (fun b => nI (lb0 gl NEV b)) i) 51 i (nI NEV) = wf S 51 (fun b => nI (lb0 gl NEV b)) (i + 1) := by
               rw [← wf_s (f := fun b => nI (lb0 gl NEV b)), show lb0 gl NEV i = NEV from if_neg (by rw [h33]; decide)]
             rw [e2]; exact ih)
          | (have e2 : uI (wf S 51 (fun b => nI (lb0 gl NEV b)) i) 51 i (nI 0) = wf S 51 (fun b => nI (lb0 gl NEV b)) (i + 1) := by
               rw [← wf_s (f := fun b => nI (lb0 gl NEV b)), show lb0 gl NEV i = 0 from if_pos h33]
             rw [e2]; exact ih)
          | fail "leaf"
