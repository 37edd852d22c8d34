/-! the reference's plain public methods -/
theorem MV.cong {S S' : Nat → Nat → Int32} {a : Nat → Nat → Nat} (hM : MV S a) (h : ∀ q, (41 ≤ q ∧ q ≤ 45) ∨ q = 55 ∨ q = 56 → S' q = S q) (h7 : ∀ k, (5 ≤ k ∧ k ≤ 9) ∨ k = 31 → S' 37 k = S 37 k) : MV S' a := by
  unfold MV at hM ⊢
  rw [h7 5 (by omega), h7 6 (by omega), h7 7 (by omega), h7 8 (by omega), h7 9 (by omega), h7 31 (by omega), h 41 (by omega), h 42 (by omega), h 43 (by omega), h 44 (by omega), h 45 (by omega), h 55 (by omega), h 56 (by omega)]
  exact hM
theorem MV_kind {S : Nat → Nat → Int32} {a : Nat → Nat → Nat} {k m : Nat} (hM : MV S a) : MV (uI S 41 k (nI m)) (setA a 5 k m) := by
  obtain ⟨mg, mdn, mso, msa, mpe, mrn, mgu, mdi, mre⟩ := hM
  refine ⟨?_, ?_, ?_, ?_, ?_, ?_, fun i hi => ?_, fun i hi => ?_, fun i hi => ?_⟩
  all_goals first | (rw [uI_p (by decide), setA_c (by decide)]; assumption) | skip
  · rw [setA_c (by decide)] at hi
    have q := mgu i hi
    refine ⟨?_, ?_, ?_⟩
    · by_cases e : i = k
      · rw [e, uI_s, setA_s]
      · rw [uI_k e, setA_i e]; exact q.1
    · rw [uI_p (by decide), setA_c (by decide)]; exact q.2.1
    · rw [uI_p (by decide), setA_c (by decide)]; exact q.2.2
  · rw [setA_c (by decide)] at hi
    rw [uI_p (by decide), uI_p (by decide), setA_c (by decide), setA_c (by decide)]
    exact mdi i hi
  · rw [setA_c (by decide)] at hi
    rw [uI_p (by decide), uI_p (by decide), setA_c (by decide), setA_c (by decide)]
    exact mre i hi
theorem MV_mouth {S : Nat → Nat → Int32} {a : Nat → Nat → Nat} {k m : Nat} (hM : MV S a) : MV (uI S 42 k (nI m)) (setA a 6 k m) := by
  obtain ⟨mg, mdn, mso, msa, mpe, mrn, mgu, mdi, mre⟩ := hM
  refine ⟨?_, ?_, ?_, ?_, ?_, ?_, fun i hi => ?_, fun i hi => ?_, fun i hi => ?_⟩
  all_goals first | (rw [uI_p (by decide), setA_c (by decide)]; assumption) | skip
  · rw [setA_c (by decide)] at hi
    have q := mgu i hi
    refine ⟨?_, ?_, ?_⟩
    · rw [uI_p (by decide), setA_c (by decide)]; exact q.1
    · by_cases e : i = k
      · rw [e, uI_s, setA_s]
      · rw [uI_k e, setA_i e]; exact q.2.1
    · rw [uI_p (by decide), setA_c (by decide)]; exact q.2.2
  · rw [setA_c (by decide)] at hi
    rw [uI_p (by decide), uI_p (by decide), setA_c (by decide), setA_c (by decide)]
    exact mdi i hi
  · rw [setA_c (by decide)] at hi
    rw [uI_p (by decide), uI_p (by decide), setA_c (by decide), setA_c (by decide)]
    exact mre i hi
theorem MV_seat {S : Nat → Nat → Int32} {a : Nat → Nat → Nat} {k m : Nat} (hM : MV S a) : MV (uI S 44 k (nI m)) (setA a 8 k m) := by
  obtain ⟨mg, mdn, mso, msa, mpe, mrn, mgu, mdi, mre⟩ := hM
  refine ⟨?_, ?_, ?_, ?_, ?_, ?_, fun i hi => ?_, fun i hi => ?_, fun i hi => ?_⟩
  all_goals first | (rw [uI_p (by decide), setA_c (by decide)]; assumption) | skip
  · rw [setA_c (by decide)] at hi
    rw [uI_p (by decide), uI_p (by decide), uI_p (by decide), setA_c (by decide), setA_c (by decide), setA_c (by decide)]
    exact mgu i hi
  · rw [setA_c (by decide)] at hi
    have q := mdi i hi
    refine ⟨?_, ?_⟩
    · by_cases e : i = k
      · rw [e, uI_s, setA_s]
      · rw [uI_k e, setA_i e]; exact q.1
    · rw [uI_p (by decide), setA_c (by decide)]; exact q.2
  · rw [setA_c (by decide)] at hi
    rw [uI_p (by decide), uI_p (by decide), setA_c (by decide), setA_c (by decide)]
    exact mre i hi
theorem MV_worth {S : Nat → Nat → Int32} {a : Nat → Nat → Nat} {k m : Nat} (hM : MV S a) : MV (uI S 45 k (nI m)) (setA a 9 k m) := by
  obtain ⟨mg, mdn, mso, msa, mpe, mrn, mgu, mdi, mre⟩ := hM
  refine ⟨?_, ?_, ?_, ?_, ?_, ?_, fun i hi => ?_, fun i hi => ?_, fun i hi => ?_⟩
  all_goals first | (rw [uI_p (by decide), setA_c (by decide)]; assumption) | skip
  · rw [setA_c (by decide)] at hi
    rw [uI_p (by decide), uI_p (by decide), uI_p (by decide), setA_c (by decide), setA_c (by decide), setA_c (by decide)]
    exact mgu i hi
  · rw [setA_c (by decide)] at hi
    have q := mdi i hi
    refine ⟨?_, ?_⟩
    · rw [uI_p (by decide), setA_c (by decide)]; exact q.1
    · by_cases e : i = k
      · rw [e, uI_s, setA_s]
      · rw [uI_k e, setA_i e]; exact q.2
  · rw [setA_c (by decide)] at hi
    rw [uI_p (by decide), uI_p (by decide), setA_c (by decide), setA_c (by decide)]
    exact mre i hi
theorem MV_soup {S : Nat → Nat → Int32} {a : Nat → Nat → Nat} {m : Nat} (hM : MV S a) : MV (uI S 37 7 (nI m)) (setA a 2 0 m) := by
  obtain ⟨mg, mdn, mso, msa, mpe, mrn, mgu, mdi, mre⟩ := hM
  refine ⟨?_, ?_, ?_, ?_, ?_, ?_, fun i hi => ?_, fun i hi => ?_, fun i hi => ?_⟩
  all_goals first
    | (rw [uI_s, setA_s]; done)
    | (rw [uI_k (by decide), setA_c (by decide)]; assumption)
    | (rw [setA_c (by decide)] at hi; rw [uI_p (by decide), uI_p (by decide), uI_p (by decide), setA_c (by decide), setA_c (by decide), setA_c (by decide)]; exact mgu i hi)
    | (rw [setA_c (by decide)] at hi; rw [uI_p (by decide), uI_p (by decide), setA_c (by decide), setA_c (by decide)]; exact mdi i hi)
    | (rw [setA_c (by decide)] at hi; rw [uI_p (by decide), uI_p (by decide), setA_c (by decide), setA_c (by decide)]; exact mre i hi)
theorem MV_border {S : Nat → Nat → Int32} {a : Nat → Nat → Nat} {b : Nat} (hM : MV S a) : MV (uI (uI S 37 8 (nI (b / 8))) 37 9 (nI (b % 8))) (setA a 3 0 b) := by
  obtain ⟨mg, mdn, mso, msa, mpe, mrn, mgu, mdi, mre⟩ := hM
  refine ⟨?_, ?_, ?_, ?_, ?_, ?_, fun i hi => ?_, fun i hi => ?_, fun i hi => ?_⟩
  · rw [uI_k (by decide), uI_k (by decide), setA_c (by decide)]; exact mg
  · rw [uI_k (by decide), uI_k (by decide), setA_c (by decide)]; exact mdn
  · rw [uI_k (by decide), uI_k (by decide), setA_c (by decide)]; exact mso
  · rw [uI_k (by decide), uI_s, setA_s]
  · rw [uI_s, setA_s]
  · rw [uI_k (by decide), uI_k (by decide), setA_c (by decide)]; exact mrn
  · rw [setA_c (by decide)] at hi
    rw [uI_p (by decide), uI_p (by decide), uI_p (by decide), uI_p (by decide), uI_p (by decide), uI_p (by decide), setA_c (by decide), setA_c (by decide), setA_c (by decide)]; exact mgu i hi
  · rw [setA_c (by decide)] at hi
    rw [uI_p (by decide), uI_p (by decide), uI_p (by decide), uI_p (by decide), setA_c (by decide), setA_c (by decide)]; exact mdi i hi
  · rw [setA_c (by decide)] at hi
    rw [uI_p (by decide), uI_p (by decide), uI_p (by decide), uI_p (by decide), setA_c (by decide), setA_c (by decide)]; exact mre i hi
theorem MV_back {S : Nat → Nat → Int32} {a : Nat → Nat → Nat} {m : Nat} (hm : m ≤ a 4 0) (hM : MV S a) : MV (uI S 37 31 (nI m)) (setA a 4 0 m) := by
  obtain ⟨mg, mdn, mso, msa, mpe, mrn, mgu, mdi, mre⟩ := hM
  refine ⟨?_, ?_, ?_, ?_, ?_, ?_, fun i hi => ?_, fun i hi => ?_, fun i hi => ?_⟩
  all_goals first
    | (rw [uI_s, setA_s]; done)
    | (rw [uI_k (by decide), setA_c (by decide)]; assumption)
    | (rw [setA_c (by decide)] at hi; rw [uI_p (by decide), uI_p (by decide), uI_p (by decide), setA_c (by decide), setA_c (by decide), setA_c (by decide)]; exact mgu i hi)
    | (rw [setA_c (by decide)] at hi; rw [uI_p (by decide), uI_p (by decide), setA_c (by decide), setA_c (by decide)]; exact mdi i hi)
    | (rw [setA_s] at hi; rw [uI_p (by decide), uI_p (by decide), setA_c (by decide), setA_c (by decide)]; exact mre i (by omega))
theorem MV_read {S : Nat → Nat → Int32} {a : Nat → Nat → Nat} {k v : Nat} (hM : MV S a) : MV (uI (uI (uI S 55 (a 4 0) (nI k)) 56 (a 4 0) (nI v)) 37 31 (nI (a 4 0 + 1))) (setA (setA (setA a 10 (a 4 0) k) 11 (a 4 0) v) 4 0 (a 4 0 + 1)) := by
  obtain ⟨mg, mdn, mso, msa, mpe, mrn, mgu, mdi, mre⟩ := hM
  refine ⟨?_, ?_, ?_, ?_, ?_, ?_, fun i hi => ?_, fun i hi => ?_, fun i hi => ?_⟩
  all_goals first
    | (rw [uI_s, setA_s]; done)
    | (rw [uI_k (by decide), uI_p (by decide), uI_p (by decide), setA_c (by decide), setA_c (by decide), setA_c (by decide)]; assumption)
    | skip
  · rw [setA_c (by decide), setA_c (by decide), setA_c (by decide)] at hi
    have q := mgu i hi
    refine ⟨?_, ?_, ?_⟩ <;> rw [uI_p (by decide), uI_p (by decide), uI_p (by decide), setA_c (by decide), setA_c (by decide), setA_c (by decide)]
    · exact q.1
    · exact q.2.1
    · exact q.2.2
  · rw [setA_c (by decide), setA_c (by decide), setA_c (by decide)] at hi
    have q := mdi i hi
    refine ⟨?_, ?_⟩ <;> rw [uI_p (by decide), uI_p (by decide), uI_p (by decide), setA_c (by decide), setA_c (by decide), setA_c (by decide)]
    · exact q.1
    · exact q.2
  · rw [setA_s] at hi
    refine ⟨?_, ?_⟩
    · rw [uI_p (by decide), uI_p (by decide), setA_c (by decide), setA_c (by decide)]
      by_cases e : i = a 4 0
      · rw [e, uI_s, setA_s]
      · rw [uI_k e, setA_i e]; exact (mre i (by omega)).1
    · rw [uI_p (by decide), setA_c (by decide)]
      by_cases e : i = a 4 0
      · rw [e, uI_s, setA_s]
      · rw [uI_k e, setA_i e, uI_p (by decide), setA_c (by decide)]; exact (mre i (by omega)).2
theorem WL_kind {a : Nat → Nat → Nat} {k m : Nat} (hm : m ≤ 2) (hW : WL a) : WL (setA a 5 k m) := by
  obtain ⟨w3, w8, wd1, wd6, wso, wb, wbs, wbp, wne, wrn, wgu, wdi, wre⟩ := hW
  refine ⟨w3, w8, wd1, wd6, wso, wb, wbs, wbp, wne, wrn, fun i hi => ?_, wdi, wre⟩
  by_cases e : i = k
  · rw [e, setA_s]; have := wgu i hi; rw [e] at this; exact ⟨hm, this.2⟩
  · rw [setA_i e]; exact wgu i hi
theorem WL_mouth {a : Nat → Nat → Nat} {k m : Nat} (hm : m ≤ 9) (hW : WL a) : WL (setA a 6 k m) := by
  obtain ⟨w3, w8, wd1, wd6, wso, wb, wbs, wbp, wne, wrn, wgu, wdi, wre⟩ := hW
  refine ⟨w3, w8, wd1, wd6, wso, wb, wbs, wbp, wne, wrn, fun i hi => ?_, wdi, wre⟩
  by_cases e : i = k
  · rw [e, setA_s]; have := wgu i hi; rw [e] at this; exact ⟨this.1, hm, this.2.2⟩
  · rw [setA_i e]; exact wgu i hi
theorem WL_soup {a : Nat → Nat → Nat} {m : Nat} (hm : m ≤ 3) (hW : WL a) : WL (setA a 2 0 m) := by
  obtain ⟨w3, w8, wd1, wd6, wso, wb, wbs, wbp, wne, wrn, wgu, wdi, wre⟩ := hW
  exact ⟨w3, w8, wd1, wd6, by rw [setA_s]; exact hm, wb, wbs, wbp, wne, wrn, wgu, wdi, wre⟩
set_option maxRecDepth 20000 in
theorem c_X7_ofGuest {S : Nat → Nat → Int32} {L : Nat → Nat → Int64} {R : Nat × Nat × Nat} {d : Nat} {a : Nat → Nat → Nat} (hM : MV S a) (hWF : WFA a) {x w : Int32} : TT mX7_ofGuest (d + 1) 0 [some (.ref 37), some (.int (x)), some (.int (w))] [] (S, L, R) (rt (some (.int (aGuest a x w))) (S, L, R)) := by
  obtain ⟨mg, mdn, mso, msa, mpe, mrn, mgu, mdi, mre⟩ := id hM
  obtain ⟨b8, b6, b3, b64, br8⟩ := hWF.b
  refine T_ald0 dX7_ofGuest_0 ?_
  refine T_ild1 dX7_ofGuest_1 ?_
  refine T_invV1i (M' := mX7_isGuest) dX7_ofGuest_2 ml_X7_153 imX7_isGuest rfl (Nat.le_of_ble_eq_true rfl) rfl (Nat.le_of_ble_eq_true rfl) rfl (Nat.le_of_ble_eq_true rfl) (c_X7_isGuest mg b8) ?_
  refine T_ifneB (tgt := 10) dX7_ofGuest_5 (by decide) (fun h5 => ?_) (fun h5 => ?_)
  · obtain ⟨k, hk, rfl⟩ := blw_t h5
    have ik : ix (nI k) = k := ix_n (by omega)
    have hW := hWF.g (by omega)
    obtain ⟨w3, w8, wd1, wd6, wso, wb, wbs, wbp, wne, wrn, wgu, wdi, wre⟩ := id hW
    refine T_ild2 dX7_ofGuest_10 ?_
    refine T_ifne (tgt := 23) dX7_ofGuest_11 (by decide) (fun h11 => ?_) (fun h11 => ?_)
    · refine T_ild2 dX7_ofGuest_23 ?_
      refine T_iconst (v := nI 1) dX7_ofGuest_24 (by decide) ?_
      refine T_cne (tgt := 37) dX7_ofGuest_25 (by decide) (fun h25 => ?_) (fun h25 => ?_)
      · refine T_ild2 dX7_ofGuest_37 ?_
        refine T_iconst (v := nI 2) dX7_ofGuest_38 (by decide) ?_
        refine T_cne (tgt := 51) dX7_ofGuest_39 (by decide) (fun h39 => ?_) (fun h39 => ?_)
        · refine T_ild2 dX7_ofGuest_51 ?_
          refine T_iconst (v := nI 3) dX7_ofGuest_52 (by decide) ?_
          refine T_cne (tgt := 64) dX7_ofGuest_53 (by decide) (fun h53 => ?_) (fun h53 => ?_)
          · refine T_bipush (v := -2) dX7_ofGuest_64 (by decide) ?_
            refine T_iret dX7_ofGuest_66 rfl ?_
            first
              | (rw [show aGuest a (nI k) w = nI (a 5 k) from (if_pos h5).trans ((if_pos (h11.trans nI_0.symm)).trans (by rw [ik]))]; exact rt_i)
              | (rw [show aGuest a (nI k) w = nI (a 6 k) from (if_pos h5).trans ((if_neg (fun e => h11 (e.trans nI_0))).trans ((if_pos h25).trans (by rw [ik])))]; exact rt_i)
              | (rw [show aGuest a (nI k) w = nI (a 7 k) from (if_pos h5).trans ((if_neg (fun e => h11 (e.trans nI_0))).trans ((if_neg h25).trans ((if_pos h39).trans (by rw [ik]))))]; exact rt_i)
              | (rw [show aGuest a (nI k) w = nI (miN a k) from (if_pos h5).trans ((if_neg (fun e => h11 (e.trans nI_0))).trans ((if_neg h25).trans ((if_neg h39).trans ((if_pos h53).trans (by rw [ik])))))]; exact rt_i)
              | (rw [show aGuest a (nI k) w = -2 from (if_pos h5).trans ((if_neg (fun e => h11 (e.trans nI_0))).trans ((if_neg h25).trans ((if_neg h39).trans (if_neg h53))))]; exact rt_i)
              | fail "leaf"
          · refine T_ald0 dX7_ofGuest_56 ?_
            refine T_ild1 dX7_ofGuest_57 ?_
            refine T_invV1i (M' := mX7_minutesOf) dX7_ofGuest_58 ml_X7_156 imX7_minutesOf rfl (Nat.le_of_ble_eq_true rfl) rfl (Nat.le_of_ble_eq_true rfl) rfl (Nat.le_of_ble_eq_true rfl) (c_X7_minutesOf hM hW hk) ?_
            refine T_goto (tgt := 66) dX7_ofGuest_61 (by decide) ?_
            refine T_iret dX7_ofGuest_66 rfl ?_
            first
              | (rw [show aGuest a (nI k) w = nI (a 5 k) from (if_pos h5).trans ((if_pos (h11.trans nI_0.symm)).trans (by rw [ik]))]; exact rt_i)
              | (rw [show aGuest a (nI k) w = nI (a 6 k) from (if_pos h5).trans ((if_neg (fun e => h11 (e.trans nI_0))).trans ((if_pos h25).trans (by rw [ik])))]; exact rt_i)
              | (rw [show aGuest a (nI k) w = nI (a 7 k) from (if_pos h5).trans ((if_neg (fun e => h11 (e.trans nI_0))).trans ((if_neg h25).trans ((if_pos h39).trans (by rw [ik]))))]; exact rt_i)
              | (rw [show aGuest a (nI k) w = nI (miN a k) from (if_pos h5).trans ((if_neg (fun e => h11 (e.trans nI_0))).trans ((if_neg h25).trans ((if_neg h39).trans ((if_pos h53).trans (by rw [ik])))))]; exact rt_i)
              | (rw [show aGuest a (nI k) w = -2 from (if_pos h5).trans ((if_neg (fun e => h11 (e.trans nI_0))).trans ((if_neg h25).trans ((if_neg h39).trans (if_neg h53))))]; exact rt_i)
              | fail "leaf"
        · refine T_ald0 dX7_ofGuest_42 ?_
          refine T_getR (q := 43) dX7_ofGuest_43 lf_X7_25 rfl rfl rfl ?_
          refine T_ild1 dX7_ofGuest_46 ?_
          refine T_ialdN dX7_ofGuest_47 rfl (by show _ < 8; omega) (mgu _ (by omega)).2.2 ?_
          refine T_goto (tgt := 66) dX7_ofGuest_48 (by decide) ?_
          refine T_iret dX7_ofGuest_66 rfl ?_
          first
            | (rw [show aGuest a (nI k) w = nI (a 5 k) from (if_pos h5).trans ((if_pos (h11.trans nI_0.symm)).trans (by rw [ik]))]; exact rt_i)
            | (rw [show aGuest a (nI k) w = nI (a 6 k) from (if_pos h5).trans ((if_neg (fun e => h11 (e.trans nI_0))).trans ((if_pos h25).trans (by rw [ik])))]; exact rt_i)
            | (rw [show aGuest a (nI k) w = nI (a 7 k) from (if_pos h5).trans ((if_neg (fun e => h11 (e.trans nI_0))).trans ((if_neg h25).trans ((if_pos h39).trans (by rw [ik]))))]; exact rt_i)
            | (rw [show aGuest a (nI k) w = nI (miN a k) from (if_pos h5).trans ((if_neg (fun e => h11 (e.trans nI_0))).trans ((if_neg h25).trans ((if_neg h39).trans ((if_pos h53).trans (by rw [ik])))))]; exact rt_i)
            | (rw [show aGuest a (nI k) w = -2 from (if_pos h5).trans ((if_neg (fun e => h11 (e.trans nI_0))).trans ((if_neg h25).trans ((if_neg h39).trans (if_neg h53))))]; exact rt_i)
            | fail "leaf"
      · refine T_ald0 dX7_ofGuest_28 ?_
        refine T_getR (q := 42) dX7_ofGuest_29 lf_X7_22 rfl rfl rfl ?_
        refine T_ild1 dX7_ofGuest_32 ?_
        refine T_ialdN dX7_ofGuest_33 rfl (by show _ < 8; omega) (mgu _ (by omega)).2.1 ?_
        refine T_goto (tgt := 66) dX7_ofGuest_34 (by decide) ?_
        refine T_iret dX7_ofGuest_66 rfl ?_
        first
          | (rw [show aGuest a (nI k) w = nI (a 5 k) from (if_pos h5).trans ((if_pos (h11.trans nI_0.symm)).trans (by rw [ik]))]; exact rt_i)
          | (rw [show aGuest a (nI k) w = nI (a 6 k) from (if_pos h5).trans ((if_neg (fun e => h11 (e.trans nI_0))).trans ((if_pos h25).trans (by rw [ik])))]; exact rt_i)
          | (rw [show aGuest a (nI k) w = nI (a 7 k) from (if_pos h5).trans ((if_neg (fun e => h11 (e.trans nI_0))).trans ((if_neg h25).trans ((if_pos h39).trans (by rw [ik]))))]; exact rt_i)
          | (rw [show aGuest a (nI k) w = nI (miN a k) from (if_pos h5).trans ((if_neg (fun e => h11 (e.trans nI_0))).trans ((if_neg h25).trans ((if_neg h39).trans ((if_pos h53).trans (by rw [ik])))))]; exact rt_i)
          | (rw [show aGuest a (nI k) w = -2 from (if_pos h5).trans ((if_neg (fun e => h11 (e.trans nI_0))).trans ((if_neg h25).trans ((if_neg h39).trans (if_neg h53))))]; exact rt_i)
          | fail "leaf"
    · refine T_ald0 dX7_ofGuest_14 ?_
      refine T_getR (q := 41) dX7_ofGuest_15 lf_X7_19 rfl rfl rfl ?_
      refine T_ild1 dX7_ofGuest_18 ?_
      refine T_ialdN dX7_ofGuest_19 rfl (by show _ < 8; omega) (mgu _ (by omega)).1 ?_
      refine T_goto (tgt := 66) dX7_ofGuest_20 (by decide) ?_
      refine T_iret dX7_ofGuest_66 rfl ?_
      first
        | (rw [show aGuest a (nI k) w = nI (a 5 k) from (if_pos h5).trans ((if_pos (h11.trans nI_0.symm)).trans (by rw [ik]))]; exact rt_i)
        | (rw [show aGuest a (nI k) w = nI (a 6 k) from (if_pos h5).trans ((if_neg (fun e => h11 (e.trans nI_0))).trans ((if_pos h25).trans (by rw [ik])))]; exact rt_i)
        | (rw [show aGuest a (nI k) w = nI (a 7 k) from (if_pos h5).trans ((if_neg (fun e => h11 (e.trans nI_0))).trans ((if_neg h25).trans ((if_pos h39).trans (by rw [ik]))))]; exact rt_i)
        | (rw [show aGuest a (nI k) w = nI (miN a k) from (if_pos h5).trans ((if_neg (fun e => h11 (e.trans nI_0))).trans ((if_neg h25).trans ((if_neg h39).trans ((if_pos h53).trans (by rw [ik])))))]; exact rt_i)
        | (rw [show aGuest a (nI k) w = -2 from (if_pos h5).trans ((if_neg (fun e => h11 (e.trans nI_0))).trans ((if_neg h25).trans ((if_neg h39).trans (if_neg h53))))]; exact rt_i)
        | fail "leaf"
  · refine T_iconst (v := -1) dX7_ofGuest_8 (by decide) ?_
    refine T_iret dX7_ofGuest_9 rfl ?_
    rw [show aGuest a x w = -1 from if_neg (by simp [h5])]; exact rt_i
set_option maxRecDepth 20000 in
theorem c_X7_ofDish {S : Nat → Nat → Int32} {L : Nat → Nat → Int64} {R : Nat × Nat × Nat} {d : Nat} {a : Nat → Nat → Nat} (hM : MV S a) (hWF : WFA a) {x w : Int32} : TT mX7_ofDish (d + 1) 0 [some (.ref 37), some (.int (x)), some (.int (w))] [] (S, L, R) (rt (some (.int (aDish a x w))) (S, L, R)) := by
  obtain ⟨mg, mdn, mso, msa, mpe, mrn, mgu, mdi, mre⟩ := id hM
  obtain ⟨b8, b6, b3, b64, br8⟩ := hWF.b
  refine T_ald0 dX7_ofDish_0 ?_
  refine T_ild1 dX7_ofDish_1 ?_
  refine T_invV1i (M' := mX7_isDish) dX7_ofDish_2 ml_X7_159 imX7_isDish rfl (Nat.le_of_ble_eq_true rfl) rfl (Nat.le_of_ble_eq_true rfl) rfl (Nat.le_of_ble_eq_true rfl) (c_X7_isDish mdn b6) ?_
  refine T_ifneB (tgt := 10) dX7_ofDish_5 (by decide) (fun h5 => ?_) (fun h5 => ?_)
  · obtain ⟨k, hk, rfl⟩ := blw_t h5
    have ik : ix (nI k) = k := ix_n (by omega)
    have hW := hWF.d (by omega)
    obtain ⟨w3, w8, wd1, wd6, wso, wb, wbs, wbp, wne, wrn, wgu, wdi, wre⟩ := id hW
    refine T_ild2 dX7_ofDish_10 ?_
    refine T_ifne (tgt := 23) dX7_ofDish_11 (by decide) (fun h11 => ?_) (fun h11 => ?_)
    · refine T_ild2 dX7_ofDish_23 ?_
      refine T_iconst (v := nI 1) dX7_ofDish_24 (by decide) ?_
      refine T_cne (tgt := 37) dX7_ofDish_25 (by decide) (fun h25 => ?_) (fun h25 => ?_)
      · refine T_ild2 dX7_ofDish_37 ?_
        refine T_iconst (v := nI 2) dX7_ofDish_38 (by decide) ?_
        refine T_cne (tgt := 63) dX7_ofDish_39 (by decide) (fun h39 => ?_) (fun h39 => ?_)
        · refine T_bipush (v := -2) dX7_ofDish_63 (by decide) ?_
          refine T_iret dX7_ofDish_65 rfl ?_
          first
            | (rw [show aDish a (nI k) w = nI (a 8 k) from (if_pos h5).trans ((if_pos (h11.trans nI_0.symm)).trans (by rw [ik]))]; exact rt_i)
            | (rw [show aDish a (nI k) w = nI (a 9 k) from (if_pos h5).trans ((if_neg (fun e => h11 (e.trans nI_0))).trans ((if_pos h25).trans (by rw [ik])))]; exact rt_i)
            | (rw [show aDish a (nI k) w = who (a 0 0) (a 8 k) (a 3 0 / 8) (a 3 0 % 8) from (if_pos h5).trans ((if_neg (fun e => h11 (e.trans nI_0))).trans ((if_neg h25).trans ((if_pos h39).trans (by rw [ik]))))]; exact rt_i)
            | (rw [show aDish a (nI k) w = -2 from (if_pos h5).trans ((if_neg (fun e => h11 (e.trans nI_0))).trans ((if_neg h25).trans (if_neg h39)))]; exact rt_i)
            | fail "leaf"
        · refine T_ald0 dX7_ofDish_42 ?_
          refine T_ald0 dX7_ofDish_43 ?_
          refine T_getR (q := 44) dX7_ofDish_44 lf_X7_28 rfl rfl rfl ?_
          refine T_ild1 dX7_ofDish_47 ?_
          refine T_ialdN dX7_ofDish_48 rfl (by show _ < 6; omega) (mdi _ (by omega)).1 ?_
          refine T_ald0 dX7_ofDish_49 ?_
          refine T_getN dX7_ofDish_50 lf_X7_120 rfl rfl msa ?_
          refine T_ald0 dX7_ofDish_53 ?_
          refine T_getN dX7_ofDish_54 lf_X7_126 rfl rfl mpe ?_
          refine T_invV3i (M' := mX7_whoseBy) dX7_ofDish_57 ml_X7_149 imX7_whoseBy rfl (Nat.le_of_ble_eq_true rfl) rfl (Nat.le_of_ble_eq_true rfl) rfl (Nat.le_of_ble_eq_true rfl) (c_X7_whoseBy mg w8 (wdi _ hk).1 wbs wbp) ?_
          refine T_goto (tgt := 65) dX7_ofDish_60 (by decide) ?_
          refine T_iret dX7_ofDish_65 rfl ?_
          first
            | (rw [show aDish a (nI k) w = nI (a 8 k) from (if_pos h5).trans ((if_pos (h11.trans nI_0.symm)).trans (by rw [ik]))]; exact rt_i)
            | (rw [show aDish a (nI k) w = nI (a 9 k) from (if_pos h5).trans ((if_neg (fun e => h11 (e.trans nI_0))).trans ((if_pos h25).trans (by rw [ik])))]; exact rt_i)
            | (rw [show aDish a (nI k) w = who (a 0 0) (a 8 k) (a 3 0 / 8) (a 3 0 % 8) from (if_pos h5).trans ((if_neg (fun e => h11 (e.trans nI_0))).trans ((if_neg h25).trans ((if_pos h39).trans (by rw [ik]))))]; exact rt_i)
            | (rw [show aDish a (nI k) w = -2 from (if_pos h5).trans ((if_neg (fun e => h11 (e.trans nI_0))).trans ((if_neg h25).trans (if_neg h39)))]; exact rt_i)
            | fail "leaf"
      · refine T_ald0 dX7_ofDish_28 ?_
        refine T_getR (q := 45) dX7_ofDish_29 lf_X7_31 rfl rfl rfl ?_
        refine T_ild1 dX7_ofDish_32 ?_
        refine T_ialdN dX7_ofDish_33 rfl (by show _ < 6; omega) (mdi _ (by omega)).2 ?_
        refine T_goto (tgt := 65) dX7_ofDish_34 (by decide) ?_
        refine T_iret dX7_ofDish_65 rfl ?_
        first
          | (rw [show aDish a (nI k) w = nI (a 8 k) from (if_pos h5).trans ((if_pos (h11.trans nI_0.symm)).trans (by rw [ik]))]; exact rt_i)
          | (rw [show aDish a (nI k) w = nI (a 9 k) from (if_pos h5).trans ((if_neg (fun e => h11 (e.trans nI_0))).trans ((if_pos h25).trans (by rw [ik])))]; exact rt_i)
          | (rw [show aDish a (nI k) w = who (a 0 0) (a 8 k) (a 3 0 / 8) (a 3 0 % 8) from (if_pos h5).trans ((if_neg (fun e => h11 (e.trans nI_0))).trans ((if_neg h25).trans ((if_pos h39).trans (by rw [ik]))))]; exact rt_i)
          | (rw [show aDish a (nI k) w = -2 from (if_pos h5).trans ((if_neg (fun e => h11 (e.trans nI_0))).trans ((if_neg h25).trans (if_neg h39)))]; exact rt_i)
          | fail "leaf"
    · refine T_ald0 dX7_ofDish_14 ?_
      refine T_getR (q := 44) dX7_ofDish_15 lf_X7_28 rfl rfl rfl ?_
      refine T_ild1 dX7_ofDish_18 ?_
      refine T_ialdN dX7_ofDish_19 rfl (by show _ < 6; omega) (mdi _ (by omega)).1 ?_
      refine T_goto (tgt := 65) dX7_ofDish_20 (by decide) ?_
      refine T_iret dX7_ofDish_65 rfl ?_
      first
        | (rw [show aDish a (nI k) w = nI (a 8 k) from (if_pos h5).trans ((if_pos (h11.trans nI_0.symm)).trans (by rw [ik]))]; exact rt_i)
        | (rw [show aDish a (nI k) w = nI (a 9 k) from (if_pos h5).trans ((if_neg (fun e => h11 (e.trans nI_0))).trans ((if_pos h25).trans (by rw [ik])))]; exact rt_i)
        | (rw [show aDish a (nI k) w = who (a 0 0) (a 8 k) (a 3 0 / 8) (a 3 0 % 8) from (if_pos h5).trans ((if_neg (fun e => h11 (e.trans nI_0))).trans ((if_neg h25).trans ((if_pos h39).trans (by rw [ik]))))]; exact rt_i)
        | (rw [show aDish a (nI k) w = -2 from (if_pos h5).trans ((if_neg (fun e => h11 (e.trans nI_0))).trans ((if_neg h25).trans (if_neg h39)))]; exact rt_i)
        | fail "leaf"
  · refine T_iconst (v := -1) dX7_ofDish_8 (by decide) ?_
    refine T_iret dX7_ofDish_9 rfl ?_
    rw [show aDish a x w = -1 from if_neg (by simp [h5])]; exact rt_i
set_option maxRecDepth 20000 in
theorem c_X7_whose {S : Nat → Nat → Int32} {L : Nat → Nat → Int64} {R : Nat × Nat × Nat} {d : Nat} {a : Nat → Nat → Nat} (hM : MV S a) (hWF : WFA a) {x : Int32} : TT mX7_whose (d + 1) 0 [some (.ref 37), some (.int (x))] [] (S, L, R) (rt (some (.int (aWhose a x))) (S, L, R)) := by
  obtain ⟨mg, mdn, mso, msa, mpe, mrn, mgu, mdi, mre⟩ := id hM
  obtain ⟨b8, b6, b3, b64, br8⟩ := hWF.b
  refine T_ald0 dX7_whose_0 ?_
  refine T_ild1 dX7_whose_1 ?_
  refine T_invV1i (M' := mX7_isGuest) dX7_whose_2 ml_X7_153 imX7_isGuest rfl (Nat.le_of_ble_eq_true rfl) rfl (Nat.le_of_ble_eq_true rfl) rfl (Nat.le_of_ble_eq_true rfl) (c_X7_isGuest mg b8) ?_
  refine T_ifeqB (tgt := 24) dX7_whose_5 (by decide) (fun h5 => ?_) (fun h5 => ?_)
  · refine T_iconst (v := -1) dX7_whose_24 (by decide) ?_
    refine T_iret dX7_whose_25 rfl ?_
    first
      | (rw [show aWhose a x = -1 from if_neg (by simp [h5])]; exact rt_i)
      | (rw [show aWhose a (nI k) = who (a 0 0) k (a 3 0 / 8) (a 3 0 % 8) from (if_pos h5).trans (by rw [ik])]; exact rt_i)
      | fail "leaf"
  · obtain ⟨k, hk, rfl⟩ := blw_t h5
    have ik : ix (nI k) = k := ix_n (by omega)
    have hW := hWF.g (by omega)
    obtain ⟨w3, w8, wd1, wd6, wso, wb, wbs, wbp, wne, wrn, wgu, wdi, wre⟩ := id hW
    refine T_ald0 dX7_whose_8 ?_
    refine T_ild1 dX7_whose_9 ?_
    refine T_ald0 dX7_whose_10 ?_
    refine T_getN dX7_whose_11 lf_X7_120 rfl rfl msa ?_
    refine T_ald0 dX7_whose_14 ?_
    refine T_getN dX7_whose_15 lf_X7_126 rfl rfl mpe ?_
    refine T_invV3i (M' := mX7_whoseBy) dX7_whose_18 ml_X7_149 imX7_whoseBy rfl (Nat.le_of_ble_eq_true rfl) rfl (Nat.le_of_ble_eq_true rfl) rfl (Nat.le_of_ble_eq_true rfl) (c_X7_whoseBy mg w8 hk wbs wbp) ?_
    refine T_goto (tgt := 25) dX7_whose_21 (by decide) ?_
    refine T_iret dX7_whose_25 rfl ?_
    first
      | (rw [show aWhose a x = -1 from if_neg (by simp [h5])]; exact rt_i)
      | (rw [show aWhose a (nI k) = who (a 0 0) k (a 3 0 / 8) (a 3 0 % 8) from (if_pos h5).trans (by rw [ik])]; exact rt_i)
      | fail "leaf"
set_option maxRecDepth 20000 in
theorem c_X7_land {S : Nat → Nat → Int32} {L : Nat → Nat → Int64} {R : Nat × Nat × Nat} {d : Nat} {a : Nat → Nat → Nat} (hM : MV S a) (hWF : WFA a) {x : Int32} : TT mX7_land (d + 2) 0 [some (.ref 37), some (.int (x))] [] (S, L, R) (rt (some (.int (aLand a x))) (S, L, R)) := by
  obtain ⟨mg, mdn, mso, msa, mpe, mrn, mgu, mdi, mre⟩ := id hM
  obtain ⟨b8, b6, b3, b64, br8⟩ := hWF.b
  refine T_ild1 dX7_land_0 ?_
  refine T_invS1i (M' := mX7_isCountry) dX7_land_1 ml_X7_162 imX7_isCountry (Nat.le_of_ble_eq_true rfl) rfl (Nat.le_of_ble_eq_true rfl) c_X7_isCountry ?_
  refine T_ifneB (tgt := 9) dX7_land_4 (by decide) (fun h4 => ?_) (fun h4 => ?_)
  · obtain ⟨c, hc, rfl⟩ := blw_t h4
    have ic : ix (nI c) = c := ix_n (by omega)
    refine T_ald0 dX7_land_9 ?_
    refine T_getN dX7_land_10 lf_X7_78 rfl rfl mg ?_
    refine T_ifneN (tgt := 21) dX7_land_13 (by decide) (by omega) (fun h13 => ?_) (fun h13 => ?_)
    · have h0 : 0 < a 0 0 := by omega
      have hW := hWF.g h0
      obtain ⟨w3, w8, wd1, wd6, wso, wb, wbs, wbp, wne, wrn, wgu, wdi, wre⟩ := id hW
      refine T_ald0 dX7_land_21 ?_
      refine T_ild1 dX7_land_22 ?_
      refine T_ald0 dX7_land_23 ?_
      refine T_getN dX7_land_24 lf_X7_120 rfl rfl msa ?_
      refine T_ald0 dX7_land_27 ?_
      refine T_getN dX7_land_28 lf_X7_126 rfl rfl mpe ?_
      refine T_invV3i (M' := mX7_landBy) dX7_land_31 ml_X7_165 imX7_landBy rfl (Nat.le_of_ble_eq_true rfl) rfl (Nat.le_of_ble_eq_true rfl) rfl (Nat.le_of_ble_eq_true rfl) (c_X7_landBy hM hW wb wbs wbp) ?_
      refine T_iret dX7_land_34 rfl ?_
      first
        | (rw [show aLand a (nI c) = -3 from (if_pos h4).trans (if_pos h13)]; exact rt_i)
        | (rw [show aLand a (nI c) = nI (land a c (a 3 0)) from (if_pos h4).trans ((if_neg h13).trans (by rw [ic]))]; exact rt_i)
        | fail "leaf"
    · refine T_bipush (v := -3) dX7_land_16 (by decide) ?_
      refine T_goto (tgt := 34) dX7_land_18 (by decide) ?_
      refine T_iret dX7_land_34 rfl ?_
      first
        | (rw [show aLand a (nI c) = -3 from (if_pos h4).trans (if_pos h13)]; exact rt_i)
        | (rw [show aLand a (nI c) = nI (land a c (a 3 0)) from (if_pos h4).trans ((if_neg h13).trans (by rw [ic]))]; exact rt_i)
        | fail "leaf"
  · refine T_iconst (v := -1) dX7_land_7 (by decide) ?_
    refine T_iret dX7_land_8 rfl ?_
    rw [show aLand a x = -1 from if_neg (by simp [h4])]; exact rt_i
set_option maxRecDepth 20000 in
theorem c_X7_chew {S : Nat → Nat → Int32} {L : Nat → Nat → Int64} {R : Nat × Nat × Nat} {d : Nat} {a : Nat → Nat → Nat} (hM : MV S a) (hWF : WFA a) {x v : Int32} : TT mX7_chew (d + 1) 0 [some (.ref 37), some (.int (x)), some (.int (v)), none] [] (S, L, R) (fun r σ' => ∃ S', σ' = (S', L, R) ∧ r = some (.int (aChew a x v)) ∧ MV S' (sChew a x v) ∧ FM S S') := by
  obtain ⟨mg, mdn, mso, msa, mpe, mrn, mgu, mdi, mre⟩ := id hM
  obtain ⟨b8, b6, b3, b64, br8⟩ := hWF.b
  refine T_ald0 dX7_chew_0 ?_
  refine T_ild1 dX7_chew_1 ?_
  refine T_invV1i (M' := mX7_isGuest) dX7_chew_2 ml_X7_153 imX7_isGuest rfl (Nat.le_of_ble_eq_true rfl) rfl (Nat.le_of_ble_eq_true rfl) rfl (Nat.le_of_ble_eq_true rfl) (c_X7_isGuest mg b8) ?_
  refine T_ifneB (tgt := 10) dX7_chew_5 (by decide) (fun h5 => ?_) (fun h5 => ?_)
  · obtain ⟨k, hk, rfl⟩ := blw_t h5
    have ik : ix (nI k) = k := ix_n (by omega)
    have hW := hWF.g (by omega)
    obtain ⟨w3, w8, wd1, wd6, wso, wb, wbs, wbp, wne, wrn, wgu, wdi, wre⟩ := id hW
    refine T_ild2 dX7_chew_10 ?_
    refine T_iconst (v := nI 0) dX7_chew_11 (by decide) ?_
    refine T_bipush (v := nI 9) dX7_chew_12 (by decide) ?_
    refine T_invS3i (M' := mX7_within) dX7_chew_14 ml_X7_74 imX7_within (Nat.le_of_ble_eq_true rfl) rfl (Nat.le_of_ble_eq_true rfl) (c_within0 (n := 10) (by decide) rfl) ?_
    refine T_ifneB (tgt := 23) dX7_chew_17 (by decide) (fun h17 => ?_) (fun h17 => ?_)
    · obtain ⟨m, hm, rfl⟩ := blw_t h17
      have im : ix (nI m) = m := ix_n (by omega)
      refine T_ald0 dX7_chew_23 ?_
      refine T_getR (q := 42) dX7_chew_24 lf_X7_22 rfl rfl rfl ?_
      refine T_ild1 dX7_chew_27 ?_
      refine T_ialdN dX7_chew_28 rfl (by show _ < 8; omega) (mgu _ (by omega)).2.1 ?_
      refine T_ist3 dX7_chew_29 (by decide) rfl ?_
      refine T_ald0 dX7_chew_30 ?_
      refine T_getR (q := 42) dX7_chew_31 lf_X7_22 rfl rfl rfl ?_
      refine T_ild1 dX7_chew_34 ?_
      refine T_ild2 dX7_chew_35 ?_
      refine T_iast dX7_chew_36 rfl (by show _ < 8; omega) rfl ?_
      refine T_ild3 dX7_chew_37 ?_
      refine T_iret dX7_chew_38 rfl ?_
      rw [show sChew a (nI k) (nI m) = setA a 6 k m from (if_pos (by rw [h5, h17]; rfl)).trans (by rw [ik, im]), show aChew a (nI k) (nI m) = nI (a 6 k) from (if_pos h5).trans ((if_pos h17).trans (by rw [ik]))]; exact ⟨_, rfl, rfl, MV_mouth hM, FM_u FM_r (by decide)⟩
    · refine T_bipush (v := -2) dX7_chew_20 (by decide) ?_
      refine T_iret dX7_chew_22 rfl ?_
      rw [show sChew a (nI k) v = a from if_neg (by simp [h5, h17]), show aChew a (nI k) v = -2 from (if_pos h5).trans (if_neg (by simp [h17]))]; exact ⟨_, rfl, rfl, hM, FM_r⟩
  · refine T_iconst (v := -1) dX7_chew_8 (by decide) ?_
    refine T_iret dX7_chew_9 rfl ?_
    rw [show sChew a x v = a from if_neg (by simp [h5]), show aChew a x v = -1 from if_neg (by simp [h5])]; exact ⟨_, rfl, rfl, hM, FM_r⟩
set_option maxRecDepth 20000 in
theorem c_X7_rate {S : Nat → Nat → Int32} {L : Nat → Nat → Int64} {R : Nat × Nat × Nat} {d : Nat} {a : Nat → Nat → Nat} (hM : MV S a) (hWF : WFA a) {x v : Int32} : TT mX7_rate (d + 1) 0 [some (.ref 37), some (.int (x)), some (.int (v)), none] [] (S, L, R) (fun r σ' => ∃ S', σ' = (S', L, R) ∧ r = some (.int (aRate a x v)) ∧ MV S' (sRate a x v) ∧ FM S S') := by
  obtain ⟨mg, mdn, mso, msa, mpe, mrn, mgu, mdi, mre⟩ := id hM
  obtain ⟨b8, b6, b3, b64, br8⟩ := hWF.b
  refine T_ald0 dX7_rate_0 ?_
  refine T_ild1 dX7_rate_1 ?_
  refine T_invV1i (M' := mX7_isDish) dX7_rate_2 ml_X7_159 imX7_isDish rfl (Nat.le_of_ble_eq_true rfl) rfl (Nat.le_of_ble_eq_true rfl) rfl (Nat.le_of_ble_eq_true rfl) (c_X7_isDish mdn b6) ?_
  refine T_ifneB (tgt := 10) dX7_rate_5 (by decide) (fun h5 => ?_) (fun h5 => ?_)
  · obtain ⟨k, hk, rfl⟩ := blw_t h5
    have ik : ix (nI k) = k := ix_n (by omega)
    have hW := hWF.d (by omega)
    obtain ⟨w3, w8, wd1, wd6, wso, wb, wbs, wbp, wne, wrn, wgu, wdi, wre⟩ := id hW
    refine T_ild2 dX7_rate_10 ?_
    refine T_iconst (v := nI 0) dX7_rate_11 (by decide) ?_
    refine T_bipush (v := nI 9) dX7_rate_12 (by decide) ?_
    refine T_invS3i (M' := mX7_within) dX7_rate_14 ml_X7_74 imX7_within (Nat.le_of_ble_eq_true rfl) rfl (Nat.le_of_ble_eq_true rfl) (c_within0 (n := 10) (by decide) rfl) ?_
    refine T_ifneB (tgt := 23) dX7_rate_17 (by decide) (fun h17 => ?_) (fun h17 => ?_)
    · obtain ⟨m, hm, rfl⟩ := blw_t h17
      have im : ix (nI m) = m := ix_n (by omega)
      refine T_ald0 dX7_rate_23 ?_
      refine T_getR (q := 45) dX7_rate_24 lf_X7_31 rfl rfl rfl ?_
      refine T_ild1 dX7_rate_27 ?_
      refine T_ialdN dX7_rate_28 rfl (by show _ < 6; omega) (mdi _ (by omega)).2 ?_
      refine T_ist3 dX7_rate_29 (by decide) rfl ?_
      refine T_ald0 dX7_rate_30 ?_
      refine T_getR (q := 45) dX7_rate_31 lf_X7_31 rfl rfl rfl ?_
      refine T_ild1 dX7_rate_34 ?_
      refine T_ild2 dX7_rate_35 ?_
      refine T_iast dX7_rate_36 rfl (by show _ < 6; omega) rfl ?_
      refine T_ild3 dX7_rate_37 ?_
      refine T_iret dX7_rate_38 rfl ?_
      rw [show sRate a (nI k) (nI m) = setA a 9 k m from (if_pos (by rw [h5, h17]; rfl)).trans (by rw [ik, im]), show aRate a (nI k) (nI m) = nI (a 9 k) from (if_pos h5).trans ((if_pos h17).trans (by rw [ik]))]; exact ⟨_, rfl, rfl, MV_worth hM, FM_u FM_r (by decide)⟩
    · refine T_bipush (v := -2) dX7_rate_20 (by decide) ?_
      refine T_iret dX7_rate_22 rfl ?_
      rw [show sRate a (nI k) v = a from if_neg (by simp [h5, h17]), show aRate a (nI k) v = -2 from (if_pos h5).trans (if_neg (by simp [h17]))]; exact ⟨_, rfl, rfl, hM, FM_r⟩
  · refine T_iconst (v := -1) dX7_rate_8 (by decide) ?_
    refine T_iret dX7_rate_9 rfl ?_
    rw [show sRate a x v = a from if_neg (by simp [h5]), show aRate a x v = -1 from if_neg (by simp [h5])]; exact ⟨_, rfl, rfl, hM, FM_r⟩
set_option maxRecDepth 20000 in
theorem c_X7_carry {S : Nat → Nat → Int32} {L : Nat → Nat → Int64} {R : Nat × Nat × Nat} {d : Nat} {a : Nat → Nat → Nat} (hM : MV S a) (hWF : WFA a) {x v : Int32} : TT mX7_carry (d + 1) 0 [some (.ref 37), some (.int (x)), some (.int (v)), none] [] (S, L, R) (fun r σ' => ∃ S', σ' = (S', L, R) ∧ r = some (.int (aCarry a x v)) ∧ MV S' (sCarry a x v) ∧ FM S S') := by
  obtain ⟨mg, mdn, mso, msa, mpe, mrn, mgu, mdi, mre⟩ := id hM
  obtain ⟨b8, b6, b3, b64, br8⟩ := hWF.b
  refine T_ald0 dX7_carry_0 ?_
  refine T_ild1 dX7_carry_1 ?_
  refine T_invV1i (M' := mX7_isDish) dX7_carry_2 ml_X7_159 imX7_isDish rfl (Nat.le_of_ble_eq_true rfl) rfl (Nat.le_of_ble_eq_true rfl) rfl (Nat.le_of_ble_eq_true rfl) (c_X7_isDish mdn b6) ?_
  refine T_ifeqB (tgt := 16) dX7_carry_5 (by decide) (fun h5 => ?_) (fun h5 => ?_)
  · refine T_iconst (v := -1) dX7_carry_16 (by decide) ?_
    refine T_iret dX7_carry_17 rfl ?_
    rw [show sCarry a x v = a from if_neg (by first | (simp [h5]; done) | simp [h5, h13]), show aCarry a x v = -1 from if_neg (by first | (simp [h5]; done) | simp [h5, h13])]; exact ⟨_, rfl, rfl, hM, FM_r⟩
  · refine T_ald0 dX7_carry_8 ?_
    refine T_ild2 dX7_carry_9 ?_
    refine T_invV1i (M' := mX7_isGuest) dX7_carry_10 ml_X7_153 imX7_isGuest rfl (Nat.le_of_ble_eq_true rfl) rfl (Nat.le_of_ble_eq_true rfl) rfl (Nat.le_of_ble_eq_true rfl) (c_X7_isGuest mg b8) ?_
    refine T_ifneB (tgt := 18) dX7_carry_13 (by decide) (fun h13 => ?_) (fun h13 => ?_)
    · obtain ⟨k, hk, rfl⟩ := blw_t h5
      have ik : ix (nI k) = k := ix_n (by omega)
      have hW := hWF.d (by omega)
      obtain ⟨w3, w8, wd1, wd6, wso, wb, wbs, wbp, wne, wrn, wgu, wdi, wre⟩ := id hW
      obtain ⟨m, hm, rfl⟩ := blw_t h13
      have im : ix (nI m) = m := ix_n (by omega)
      refine T_ald0 dX7_carry_18 ?_
      refine T_getR (q := 44) dX7_carry_19 lf_X7_28 rfl rfl rfl ?_
      refine T_ild1 dX7_carry_22 ?_
      refine T_ialdN dX7_carry_23 rfl (by show _ < 6; omega) (mdi _ (by omega)).1 ?_
      refine T_ist3 dX7_carry_24 (by decide) rfl ?_
      refine T_ald0 dX7_carry_25 ?_
      refine T_getR (q := 44) dX7_carry_26 lf_X7_28 rfl rfl rfl ?_
      refine T_ild1 dX7_carry_29 ?_
      refine T_ild2 dX7_carry_30 ?_
      refine T_iast dX7_carry_31 rfl (by show _ < 6; omega) rfl ?_
      refine T_ild3 dX7_carry_32 ?_
      refine T_iret dX7_carry_33 rfl ?_
      rw [show sCarry a (nI k) (nI m) = setA a 8 k m from (if_pos (by rw [h5, h13]; rfl)).trans (by rw [ik, im]), show aCarry a (nI k) (nI m) = nI (a 8 k) from (if_pos (by rw [h5, h13]; rfl)).trans (by rw [ik])]; exact ⟨_, rfl, rfl, MV_seat hM, FM_u FM_r (by decide)⟩
    · refine T_iconst (v := -1) dX7_carry_16 (by decide) ?_
      refine T_iret dX7_carry_17 rfl ?_
      rw [show sCarry a x v = a from if_neg (by first | (simp [h5]; done) | simp [h5, h13]), show aCarry a x v = -1 from if_neg (by first | (simp [h5]; done) | simp [h5, h13])]; exact ⟨_, rfl, rfl, hM, FM_r⟩
set_option maxRecDepth 20000 in
theorem c_X7_cook {S : Nat → Nat → Int32} {L : Nat → Nat → Int64} {R : Nat × Nat × Nat} {d : Nat} {a : Nat → Nat → Nat} (hM : MV S a) (hWF : WFA a) {v : Int32} : TT mX7_cook (d + 1) 0 [some (.ref 37), some (.int (v)), none] [] (S, L, R) (fun r σ' => ∃ S', σ' = (S', L, R) ∧ r = some (.int (aCook a v)) ∧ MV S' (sCook a v) ∧ FM S S') := by
  obtain ⟨mg, mdn, mso, msa, mpe, mrn, mgu, mdi, mre⟩ := id hM
  obtain ⟨b8, b6, b3, b64, br8⟩ := hWF.b
  refine T_ild1 dX7_cook_0 ?_
  refine T_iconst (v := nI 0) dX7_cook_1 (by decide) ?_
  refine T_iconst (v := nI 3) dX7_cook_2 (by decide) ?_
  refine T_invS3i (M' := mX7_within) dX7_cook_3 ml_X7_74 imX7_within (Nat.le_of_ble_eq_true rfl) rfl (Nat.le_of_ble_eq_true rfl) (c_within0 (n := 4) (by decide) rfl) ?_
  refine T_ifneB (tgt := 12) dX7_cook_6 (by decide) (fun h6 => ?_) (fun h6 => ?_)
  · obtain ⟨m, hm, rfl⟩ := blw_t h6
    have im : ix (nI m) = m := ix_n (by omega)
    refine T_ald0 dX7_cook_12 ?_
    refine T_getN dX7_cook_13 lf_X7_78 rfl rfl mg ?_
    refine T_ifneN (tgt := 22) dX7_cook_16 (by decide) (by omega) (fun h16 => ?_) (fun h16 => ?_)
    · have h0 : 0 < a 0 0 := by omega
      have hW := hWF.g h0
      obtain ⟨w3, w8, wd1, wd6, wso, wb, wbs, wbp, wne, wrn, wgu, wdi, wre⟩ := id hW
      refine T_ald0 dX7_cook_22 ?_
      refine T_getN dX7_cook_23 lf_X7_111 rfl rfl mso ?_
      refine T_ist2 dX7_cook_26 (by decide) rfl ?_
      refine T_ald0 dX7_cook_27 ?_
      refine T_ild1 dX7_cook_28 ?_
      refine T_putI dX7_cook_29 lf_X7_111 rfl rfl rfl rfl ?_
      refine T_ild2 dX7_cook_32 ?_
      refine T_iret dX7_cook_33 rfl ?_
      rw [show sCook a (nI m) = setA a 2 0 m from (if_pos (by rw [h6, decide_eq_false h16]; rfl)).trans (by rw [im]), show aCook a (nI m) = nI (a 2 0) from (if_pos h6).trans (if_neg h16)]; exact ⟨_, rfl, rfl, MV_soup hM, FM_7 FM_r (by decide)⟩
    · refine T_bipush (v := -3) dX7_cook_19 (by decide) ?_
      refine T_iret dX7_cook_21 rfl ?_
      rw [show sCook a (nI m) = a from if_neg (by rw [h6, decide_eq_true h16]; decide), show aCook a (nI m) = -3 from (if_pos h6).trans (if_pos h16)]; exact ⟨_, rfl, rfl, hM, FM_r⟩
  · refine T_bipush (v := -2) dX7_cook_9 (by decide) ?_
    refine T_iret dX7_cook_11 rfl ?_
    rw [show sCook a v = a from if_neg (by simp [h6]), show aCook a v = -2 from if_neg (by simp [h6])]; exact ⟨_, rfl, rfl, hM, FM_r⟩
set_option maxRecDepth 20000 in
theorem c_X7_pass {S : Nat → Nat → Int32} {L : Nat → Nat → Int64} {R : Nat × Nat × Nat} {d : Nat} {a : Nat → Nat → Nat} (hM : MV S a) (hWF : WFA a) {x : Int32} : TT mX7_pass (d + 2) 0 [some (.ref 37), some (.int (x)), none, none] [] (S, L, R) (fun r σ' => ∃ S', σ' = (S', L, R) ∧ r = some (.int (aPass a x)) ∧ MV S' (sPass a x) ∧ FM S S') := by
  obtain ⟨mg, mdn, mso, msa, mpe, mrn, mgu, mdi, mre⟩ := id hM
  obtain ⟨b8, b6, b3, b64, br8⟩ := hWF.b
  cases hb : blw x 4 with
  | false =>
    refine T_ild1 dX7_pass_0 ?_
    refine T_iconst (v := nI 0) dX7_pass_1 (by decide) ?_
    refine T_iconst (v := nI 3) dX7_pass_2 (by decide) ?_
    refine T_invS3i (M' := mX7_within) dX7_pass_3 ml_X7_74 imX7_within (Nat.le_of_ble_eq_true rfl) rfl (Nat.le_of_ble_eq_true rfl) (c_within0 (n := 4) (by decide) rfl) ?_
    refine T_ifneB (tgt := 12) dX7_pass_6 (by decide) (fun h6 => by rw [h6] at hb; cases hb) (fun h6 => ?_)
    refine T_bipush (v := -2) dX7_pass_9 (by decide) ?_
    refine T_iret dX7_pass_11 rfl ?_
    rw [show sPass a x = a from if_neg (by simp [h6]), show aPass a x = -2 from if_neg (by simp [h6])]; exact ⟨_, rfl, rfl, hM, FM_r⟩
  | true =>
    obtain ⟨m, hm, rfl⟩ := blw_t hb
    have im : ix (nI m) = m := ix_n (by omega)
    by_cases hz : a 0 0 = 0
    · skip
      refine T_ild1 dX7_pass_0 ?_
      refine T_iconst (v := nI 0) dX7_pass_1 (by decide) ?_
      refine T_iconst (v := nI 3) dX7_pass_2 (by decide) ?_
      refine T_invS3i (M' := mX7_within) dX7_pass_3 ml_X7_74 imX7_within (Nat.le_of_ble_eq_true rfl) rfl (Nat.le_of_ble_eq_true rfl) (c_within0 (n := 4) (by decide) rfl) ?_
      refine T_ifneB (tgt := 12) dX7_pass_6 (by decide) (fun h6 => ?_) (fun h6 => by rw [hb] at h6; cases h6)
      refine T_ald0 dX7_pass_12 ?_
      refine T_getN dX7_pass_13 lf_X7_78 rfl rfl mg ?_
      refine T_ifeqN (tgt := 33) dX7_pass_16 (by decide) (by omega) (fun h16 => ?_) (fun h16 => by exact absurd hz h16)
      refine T_bipush (v := -3) dX7_pass_33 (by decide) ?_
      refine T_iret dX7_pass_35 rfl ?_
      rw [show sPass a (nI m) = a from if_neg (by rw [hb, decide_eq_true hz]; decide), show aPass a (nI m) = -3 from (if_pos hb).trans (if_pos hz)]; exact ⟨_, rfl, rfl, hM, FM_r⟩
    · have h0 : 0 < a 0 0 := by omega
      have hW := hWF.g h0
      obtain ⟨w3, w8, wd1, wd6, wso, wb, wbs, wbp, wne, wrn, wgu, wdi, wre⟩ := id hW
      cases hbe : beh (a 0 0) (a 3 0) m with
      | none =>
        refine T_ild1 dX7_pass_0 ?_
        refine T_iconst (v := nI 0) dX7_pass_1 (by decide) ?_
        refine T_iconst (v := nI 3) dX7_pass_2 (by decide) ?_
        refine T_invS3i (M' := mX7_within) dX7_pass_3 ml_X7_74 imX7_within (Nat.le_of_ble_eq_true rfl) rfl (Nat.le_of_ble_eq_true rfl) (c_within0 (n := 4) (by decide) rfl) ?_
        refine T_ifneB (tgt := 12) dX7_pass_6 (by decide) (fun h6 => ?_) (fun h6 => by rw [hb] at h6; cases h6)
        refine T_ald0 dX7_pass_12 ?_
        refine T_getN dX7_pass_13 lf_X7_78 rfl rfl mg ?_
        refine T_ifeqN (tgt := 33) dX7_pass_16 (by decide) (by omega) (fun h16 => by exact absurd h16 hz) (fun h16 => ?_)
        refine T_ald0 dX7_pass_19 ?_
        refine T_ald0 dX7_pass_20 ?_
        refine T_invV0i (M' := mX7_stateNow) dX7_pass_21 ml_X7_171 imX7_stateNow rfl (Nat.le_of_ble_eq_true rfl) rfl (Nat.le_of_ble_eq_true rfl) rfl (Nat.le_of_ble_eq_true rfl) (c_X7_stateNow hM) ?_
        refine T_ild1 dX7_pass_24 ?_
        refine T_invV2i (M' := mX7_behind) dX7_pass_25 ml_X7_175 imX7_behind rfl (Nat.le_of_ble_eq_true rfl) rfl (Nat.le_of_ble_eq_true rfl) rfl (Nat.le_of_ble_eq_true rfl) (c_mb_n mg b8 wb wbs wbp hm hbe) ?_
        refine T_bipush (v := -9) dX7_pass_28 (by decide) ?_
        refine T_cne (tgt := 36) dX7_pass_30 (by decide) (fun h30 => by exact absurd rfl h30) (fun h30 => ?_)
        refine T_bipush (v := -3) dX7_pass_33 (by decide) ?_
        refine T_iret dX7_pass_35 rfl ?_
        rw [show sPass a (nI m) = a from (if_pos (by rw [hb, decide_eq_false hz]; rfl)).trans (by rw [im, hbe]), show aPass a (nI m) = -3 from (if_pos hb).trans ((if_neg hz).trans (by rw [im, hbe]))]; exact ⟨_, rfl, rfl, hM, FM_r⟩
      | some b' =>
        have hb' := (beh_some b8 wbs wbp hbe).1
        refine T_ild1 dX7_pass_0 ?_
        refine T_iconst (v := nI 0) dX7_pass_1 (by decide) ?_
        refine T_iconst (v := nI 3) dX7_pass_2 (by decide) ?_
        refine T_invS3i (M' := mX7_within) dX7_pass_3 ml_X7_74 imX7_within (Nat.le_of_ble_eq_true rfl) rfl (Nat.le_of_ble_eq_true rfl) (c_within0 (n := 4) (by decide) rfl) ?_
        refine T_ifneB (tgt := 12) dX7_pass_6 (by decide) (fun h6 => ?_) (fun h6 => by rw [hb] at h6; cases h6)
        refine T_ald0 dX7_pass_12 ?_
        refine T_getN dX7_pass_13 lf_X7_78 rfl rfl mg ?_
        refine T_ifeqN (tgt := 33) dX7_pass_16 (by decide) (by omega) (fun h16 => by exact absurd h16 hz) (fun h16 => ?_)
        refine T_ald0 dX7_pass_19 ?_
        refine T_ald0 dX7_pass_20 ?_
        refine T_invV0i (M' := mX7_stateNow) dX7_pass_21 ml_X7_171 imX7_stateNow rfl (Nat.le_of_ble_eq_true rfl) rfl (Nat.le_of_ble_eq_true rfl) rfl (Nat.le_of_ble_eq_true rfl) (c_X7_stateNow hM) ?_
        refine T_ild1 dX7_pass_24 ?_
        refine T_invV2i (M' := mX7_behind) dX7_pass_25 ml_X7_175 imX7_behind rfl (Nat.le_of_ble_eq_true rfl) rfl (Nat.le_of_ble_eq_true rfl) rfl (Nat.le_of_ble_eq_true rfl) (c_mb_s mg b8 wb wbs wbp hm hbe) ?_
        refine T_bipush (v := -9) dX7_pass_28 (by decide) ?_
        refine T_cne (tgt := 36) dX7_pass_30 (by decide) (fun h30 => ?_) (fun h30 => by exact absurd h30 (nI_m9 (by have := (beh_some b8 wbs wbp hbe).1; omega)))
        refine T_ald0 dX7_pass_36 ?_
        refine T_ald0 dX7_pass_37 ?_
        refine T_invV0i (M' := mX7_stateNow) dX7_pass_38 ml_X7_171 imX7_stateNow rfl (Nat.le_of_ble_eq_true rfl) rfl (Nat.le_of_ble_eq_true rfl) rfl (Nat.le_of_ble_eq_true rfl) (c_X7_stateNow hM) ?_
        refine T_ild1 dX7_pass_41 ?_
        refine T_invV2i (M' := mX7_takes) dX7_pass_42 ml_X7_178 imX7_takes rfl (Nat.le_of_ble_eq_true rfl) rfl (Nat.le_of_ble_eq_true rfl) rfl (Nat.le_of_ble_eq_true rfl) (c_X7_takes hM hW wb wbs wbp hm) ?_
        refine T_ist2 dX7_pass_45 (by decide) rfl ?_
        refine T_ald0 dX7_pass_46 ?_
        refine T_ald0 dX7_pass_47 ?_
        refine T_invV0i (M' := mX7_stateNow) dX7_pass_48 ml_X7_171 imX7_stateNow rfl (Nat.le_of_ble_eq_true rfl) rfl (Nat.le_of_ble_eq_true rfl) rfl (Nat.le_of_ble_eq_true rfl) (c_X7_stateNow hM) ?_
        refine T_ild1 dX7_pass_51 ?_
        refine T_invV2i (M' := mX7_behind) dX7_pass_52 ml_X7_175 imX7_behind rfl (Nat.le_of_ble_eq_true rfl) rfl (Nat.le_of_ble_eq_true rfl) rfl (Nat.le_of_ble_eq_true rfl) (c_mb_s mg b8 wb wbs wbp hm hbe) ?_
        refine T_ist3 dX7_pass_55 (by decide) rfl ?_
        refine T_ald0 dX7_pass_56 ?_
        refine T_ild3 dX7_pass_57 ?_
        refine T_bipush (v := nI 8) dX7_pass_58 (by decide) ?_
        refine T_idivN dX7_pass_60 (by omega) (by omega) (by omega) ?_
        refine T_putI dX7_pass_61 lf_X7_120 rfl rfl rfl rfl ?_
        refine T_ald0 dX7_pass_64 ?_
        refine T_ild3 dX7_pass_65 ?_
        refine T_bipush (v := nI 8) dX7_pass_66 (by decide) ?_
        refine T_iremN dX7_pass_68 (by omega) (by omega) (by omega) ?_
        refine T_putI dX7_pass_69 lf_X7_126 rfl rfl rfl rfl ?_
        refine T_ild2 dX7_pass_72 ?_
        refine T_iret dX7_pass_73 rfl ?_
        rw [show sPass a (nI m) = setA a 3 0 b' from (if_pos (by rw [hb, decide_eq_false hz]; rfl)).trans (by rw [im, hbe]), show aPass a (nI m) = nI (miN a (stand (a 3 0) m)) from (if_pos hb).trans ((if_neg hz).trans (by rw [im, hbe]))]; exact ⟨_, rfl, rfl, MV_border hM, FM_7 (FM_7 FM_r (by decide)) (by decide)⟩
set_option maxRecDepth 20000 in
theorem c_X7_reading {S : Nat → Nat → Int32} {L : Nat → Nat → Int64} {R : Nat × Nat × Nat} {d : Nat} {a : Nat → Nat → Nat} (hM : MV S a) (hWF : WFA a) {x v : Int32} : TT mX7_reading (d + 1) 0 [some (.ref 37), some (.int (x)), some (.int (v))] [] (S, L, R) (fun r σ' => ∃ S', σ' = (S', L, R) ∧ r = some (.int (aReading a x v)) ∧ MV S' (sReading a x v) ∧ FM S S') := by
  obtain ⟨mg, mdn, mso, msa, mpe, mrn, mgu, mdi, mre⟩ := id hM
  obtain ⟨b8, b6, b3, b64, br8⟩ := hWF.b
  refine T_ald0 dX7_reading_0 ?_
  refine T_ild1 dX7_reading_1 ?_
  refine T_invV1i (M' := mX7_isGuest) dX7_reading_2 ml_X7_153 imX7_isGuest rfl (Nat.le_of_ble_eq_true rfl) rfl (Nat.le_of_ble_eq_true rfl) rfl (Nat.le_of_ble_eq_true rfl) (c_X7_isGuest mg b8) ?_
  refine T_ifneB (tgt := 10) dX7_reading_5 (by decide) (fun h5 => ?_) (fun h5 => ?_)
  · obtain ⟨k, hk, rfl⟩ := blw_t h5
    have ik : ix (nI k) = k := ix_n (by omega)
    have hW := hWF.g (by omega)
    obtain ⟨w3, w8, wd1, wd6, wso, wb, wbs, wbp, wne, wrn, wgu, wdi, wre⟩ := id hW
    refine T_ild2 dX7_reading_10 ?_
    refine T_iconst (v := nI 0) dX7_reading_11 (by decide) ?_
    refine T_bipush (v := nI 19) dX7_reading_12 (by decide) ?_
    refine T_invS3i (M' := mX7_within) dX7_reading_14 ml_X7_74 imX7_within (Nat.le_of_ble_eq_true rfl) rfl (Nat.le_of_ble_eq_true rfl) (c_within0 (n := 20) (by decide) rfl) ?_
    refine T_ifneB (tgt := 23) dX7_reading_17 (by decide) (fun h17 => ?_) (fun h17 => ?_)
    · obtain ⟨m, hm, rfl⟩ := blw_t h17
      have im : ix (nI m) = m := ix_n (by omega)
      refine T_ald0 dX7_reading_23 ?_
      refine T_getN dX7_reading_24 lf_X7_132 rfl rfl mrn ?_
      refine T_bipush (v := nI 8) dX7_reading_27 (by decide) ?_
      refine T_cneN (tgt := 35) dX7_reading_29 (by decide) (by omega) (by omega) (fun h29 => ?_) (fun h29 => ?_)
      · refine T_ald0 dX7_reading_35 ?_
        refine T_getR (q := 55) dX7_reading_36 lf_X7_62 rfl rfl rfl ?_
        refine T_ald0 dX7_reading_39 ?_
        refine T_getN dX7_reading_40 lf_X7_132 rfl rfl mrn ?_
        refine T_ild1 dX7_reading_43 ?_
        refine T_iast dX7_reading_44 rfl (by show _ < 8; omega) rfl ?_
        refine T_ald0 dX7_reading_45 ?_
        refine T_getR (q := 56) dX7_reading_46 lf_X7_65 rfl rfl rfl ?_
        refine T_ald0 dX7_reading_49 ?_
        refine T_getN dX7_reading_50 lf_X7_132 rfl rfl (by rw [uI_p (by decide)]; exact mrn) ?_
        refine T_ild2 dX7_reading_53 ?_
        refine T_iast dX7_reading_54 rfl (by show _ < 8; omega) rfl ?_
        refine T_ald0 dX7_reading_55 ?_
        refine T_dup dX7_reading_56 rfl ?_
        refine T_getN dX7_reading_57 lf_X7_132 rfl rfl (by rw [uI_p (by decide)]; rw [uI_p (by decide)]; exact mrn) ?_
        refine T_iconst (v := nI 1) dX7_reading_60 (by decide) ?_
        refine T_iaddN dX7_reading_61 ?_
        refine T_putI dX7_reading_62 lf_X7_132 rfl rfl rfl rfl ?_
        refine T_ald0 dX7_reading_65 ?_
        refine T_getN dX7_reading_66 lf_X7_132 rfl rfl uI_s ?_
        refine T_iconst (v := nI 1) dX7_reading_69 (by decide) ?_
        refine T_isubN dX7_reading_70 (by omega) ?_
        refine T_iret dX7_reading_71 rfl ?_
        rw [show sReading a (nI k) (nI m) = setA (setA (setA a 10 (a 4 0) k) 11 (a 4 0) m) 4 0 (a 4 0 + 1) from (if_pos (by rw [h5, h17, decide_eq_true (show a 4 0 < 8 by omega)]; rfl)).trans (by rw [ik, im]), show aReading a (nI k) (nI m) = nI (a 4 0 + 1 - 1) from (if_pos h5).trans ((if_pos h17).trans (if_pos (by omega)))]; exact ⟨_, rfl, rfl, MV_read hM, FM_7 (FM_u (FM_u FM_r (by decide)) (by decide)) (by decide)⟩
      · refine T_bipush (v := -4) dX7_reading_32 (by decide) ?_
        refine T_iret dX7_reading_34 rfl ?_
        rw [show sReading a (nI k) (nI m) = a from if_neg (by rw [h5, h17, decide_eq_false (show ¬ a 4 0 < 8 by omega)]; decide), show aReading a (nI k) (nI m) = -4 from (if_pos h5).trans ((if_pos h17).trans (if_neg (by omega)))]; exact ⟨_, rfl, rfl, hM, FM_r⟩
    · refine T_bipush (v := -2) dX7_reading_20 (by decide) ?_
      refine T_iret dX7_reading_22 rfl ?_
      rw [show sReading a (nI k) v = a from if_neg (by simp [h5, h17]), show aReading a (nI k) v = -2 from (if_pos h5).trans (if_neg (by simp [h17]))]; exact ⟨_, rfl, rfl, hM, FM_r⟩
  · refine T_iconst (v := -1) dX7_reading_8 (by decide) ?_
    refine T_iret dX7_reading_9 rfl ?_
    rw [show sReading a x v = a from if_neg (by simp [h5]), show aReading a x v = -1 from if_neg (by simp [h5])]; exact ⟨_, rfl, rfl, hM, FM_r⟩
set_option maxRecDepth 20000 in
theorem c_X7_back {S : Nat → Nat → Int32} {L : Nat → Nat → Int64} {R : Nat × Nat × Nat} {d : Nat} {a : Nat → Nat → Nat} (hM : MV S a) (hWF : WFA a) {x : Int32} : TT mX7_back (d + 1) 0 [some (.ref 37), some (.int (x))] [] (S, L, R) (fun r σ' => ∃ S', σ' = (S', L, R) ∧ r = some (.int (aBack a x)) ∧ MV S' (sBack a x) ∧ FM S S') := by
  obtain ⟨mg, mdn, mso, msa, mpe, mrn, mgu, mdi, mre⟩ := id hM
  obtain ⟨b8, b6, b3, b64, br8⟩ := hWF.b
  refine T_ild1 dX7_back_0 ?_
  refine T_iconst (v := nI 0) dX7_back_1 (by decide) ?_
  refine T_ald0 dX7_back_2 ?_
  refine T_getN dX7_back_3 lf_X7_132 rfl rfl mrn ?_
  refine T_invS3i (M' := mX7_within) dX7_back_6 ml_X7_74 imX7_within (Nat.le_of_ble_eq_true rfl) rfl (Nat.le_of_ble_eq_true rfl) (c_within0 (n := a 4 0 + 1) (by omega) rfl) ?_
  refine T_ifneB (tgt := 15) dX7_back_9 (by decide) (fun h9 => ?_) (fun h9 => ?_)
  · obtain ⟨k, hk, rfl⟩ := blw_t h9
    have ik : ix (nI k) = k := ix_n (by omega)
    refine T_ald0 dX7_back_15 ?_
    refine T_dup dX7_back_16 rfl ?_
    refine T_getN dX7_back_17 lf_X7_132 rfl rfl mrn ?_
    refine T_ild1 dX7_back_20 ?_
    refine T_isubN dX7_back_21 (by omega) ?_
    refine T_putI dX7_back_22 lf_X7_132 rfl rfl rfl rfl ?_
    refine T_ald0 dX7_back_25 ?_
    refine T_getN dX7_back_26 lf_X7_132 rfl rfl uI_s ?_
    refine T_iret dX7_back_29 rfl ?_
    rw [show sBack a (nI k) = setA a 4 0 (a 4 0 - k) from (if_pos h9).trans (by rw [ik]), show aBack a (nI k) = nI (a 4 0 - k) from (if_pos h9).trans (by rw [ik])]; exact ⟨_, rfl, rfl, MV_back (by omega) hM, FM_7 FM_r (by decide)⟩
  · refine T_bipush (v := -2) dX7_back_12 (by decide) ?_
    refine T_iret dX7_back_14 rfl ?_
    rw [show sBack a x = a from if_neg (by simp [h9]), show aBack a x = -2 from if_neg (by simp [h9])]; exact ⟨_, rfl, rfl, hM, FM_r⟩
set_option maxRecDepth 20000 in
theorem c_X7_many {S : Nat → Nat → Int32} {L : Nat → Nat → Int64} {R : Nat × Nat × Nat} {d : Nat} {a : Nat → Nat → Nat} (hM : MV S a) (hWF : WFA a) {w : Int32} : TT mX7_many (d + 1) 0 [some (.ref 37), some (.int (w))] [] (S, L, R) (rt (some (.int (aMany a w))) (S, L, R)) := by
  obtain ⟨mg, mdn, mso, msa, mpe, mrn, mgu, mdi, mre⟩ := id hM
  obtain ⟨b8, b6, b3, b64, br8⟩ := hWF.b
  refine T_ild1 dX7_many_0 ?_
  refine T_sw (a := 0) [40, 45, 50, 55, 60, 65] 70 dX7_many_1 (by decide) (by decide) (by decide) (by decide) (fun j hj e1 => ?_) (fun e1 => ?_)
  · match j, hj, e1 with
    | 0, _, e1 =>
      refine T_ald0 dX7_many_40 ?_
      refine T_getN dX7_many_41 lf_X7_78 rfl rfl mg ?_
      refine T_iret dX7_many_44 rfl ?_
      rw [show aMany a w = nI (a 0 0) from (if_pos e1).trans (rfl)]; exact rt_i
    | 1, _, e1 =>
      refine T_ald0 dX7_many_45 ?_
      refine T_getN dX7_many_46 lf_X7_81 rfl rfl mdn ?_
      refine T_iret dX7_many_49 rfl ?_
      rw [show aMany a w = nI (a 1 0) from (if_neg (by rw [e1]; decide)).trans ((if_pos e1).trans (rfl))]; exact rt_i
    | 2, _, e1 =>
      refine T_ald0 dX7_many_50 ?_
      refine T_getN dX7_many_51 lf_X7_111 rfl rfl mso ?_
      refine T_iret dX7_many_54 rfl ?_
      rw [show aMany a w = nI (a 2 0) from (if_neg (by rw [e1]; decide)).trans ((if_neg (by rw [e1]; decide)).trans ((if_pos e1).trans (rfl)))]; exact rt_i
    | 3, _, e1 =>
      refine T_ald0 dX7_many_55 ?_
      refine T_getN dX7_many_56 lf_X7_120 rfl rfl msa ?_
      refine T_iret dX7_many_59 rfl ?_
      rw [show aMany a w = nI (a 3 0 / 8) from (if_neg (by rw [e1]; decide)).trans ((if_neg (by rw [e1]; decide)).trans ((if_neg (by rw [e1]; decide)).trans ((if_pos e1).trans (rfl))))]; exact rt_i
    | 4, _, e1 =>
      refine T_ald0 dX7_many_60 ?_
      refine T_getN dX7_many_61 lf_X7_126 rfl rfl mpe ?_
      refine T_iret dX7_many_64 rfl ?_
      rw [show aMany a w = nI (a 3 0 % 8) from (if_neg (by rw [e1]; decide)).trans ((if_neg (by rw [e1]; decide)).trans ((if_neg (by rw [e1]; decide)).trans ((if_neg (by rw [e1]; decide)).trans ((if_pos e1).trans (rfl)))))]; exact rt_i
    | 5, _, e1 =>
      refine T_ald0 dX7_many_65 ?_
      refine T_getN dX7_many_66 lf_X7_132 rfl rfl mrn ?_
      refine T_iret dX7_many_69 rfl ?_
      rw [show aMany a w = nI (a 4 0) from (if_neg (by rw [e1]; decide)).trans ((if_neg (by rw [e1]; decide)).trans ((if_neg (by rw [e1]; decide)).trans ((if_neg (by rw [e1]; decide)).trans ((if_neg (by rw [e1]; decide)).trans ((if_pos e1).trans (rfl))))))]; exact rt_i
    | j + 6, hj, _ => exact absurd hj (by simp)
  · refine T_bipush (v := -2) dX7_many_70 (by decide) ?_
    refine T_iret dX7_many_72 rfl ?_
    rw [show aMany a w = -2 from (if_neg (e1 0 (by decide))).trans ((if_neg (e1 1 (by decide))).trans ((if_neg (e1 2 (by decide))).trans ((if_neg (e1 3 (by decide))).trans ((if_neg (e1 4 (by decide))).trans (if_neg (e1 5 (by decide)))))))]; exact rt_i
