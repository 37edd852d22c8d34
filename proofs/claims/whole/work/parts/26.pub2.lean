/-! contracts of the plain public methods -/
set_option maxRecDepth 20000 in
theorem c_X6_ofGuest {S : Nat → Nat → Int32} {L : Nat → Nat → Int64} {nw sp cd : Nat} {d : Nat} (hnw : nw = 19 ∨ nw = 28) {a : Nat → Nat → Nat} (hV : TV S nw a) (hWF : WFA a) {x w : Int32} : TT mX6_ofGuest (d + 3) 0 [some (.ref 0), some (.int (x)), some (.int (w))] [] (S, L, (nw, sp, cd)) (rt (some (.int (aGuest a x w))) (S, L, (nw, sp, cd))) := by
  obtain ⟨hg, hdn, hso, hbd, hrn, hgu, hdi, hre⟩ := id hV
  obtain ⟨b8, b6, b3, b64, br8⟩ := hWF.b
  refine T_ild1 dX6_ofGuest_0 ?_
  refine T_ald0 dX6_ofGuest_1 ?_
  refine T_getR (q := nw) dX6_ofGuest_2 lf_X6_48 rfl rfl rfl ?_
  refine T_getN dX6_ofGuest_5 lf_X6_91 (kT hnw) rfl hg ?_
  refine T_invS2i (M' := mX6_isBelow) dX6_ofGuest_8 ml_X6_64 imX6_isBelow (Nat.le_of_ble_eq_true rfl) rfl (Nat.le_of_ble_eq_true rfl) (c_X6_isBelow (by omega)) ?_
  refine T_ifneB (tgt := 16) dX6_ofGuest_11 (by decide) (fun h11 => ?_) (fun h11 => ?_)
  · obtain ⟨k, hk, rfl⟩ := blw_t h11
    have ik : ix (nI k) = k := ix_n (by omega)
    have hW := hWF.g (by omega)
    obtain ⟨w3, w8, wd1, wd6, wso, wb, wbs, wbp, wne, wrn, wgu, wdi, wre⟩ := id hW
    refine T_ild2 dX6_ofGuest_16 ?_
    refine T_sw (a := 0) [48, 58, 68, 78] 87 dX6_ofGuest_17 (by decide) (by decide) (by decide) (by decide) (fun j hj e17 => ?_) (fun e17 => ?_)
    · match j, hj, e17 with
      | 0, _, e17 =>
        refine T_ald0 dX6_ofGuest_48 ?_
        refine T_getR (q := nw) dX6_ofGuest_49 lf_X6_48 rfl rfl rfl ?_
        refine T_getR (q := nw + 1) dX6_ofGuest_52 lf_X6_94 (kT hnw) rfl (rT1 hnw) ?_
        refine T_ild1 dX6_ofGuest_55 ?_
        refine T_ialdN dX6_ofGuest_56 (kT1 hnw) (by rw [lT1 hnw]; omega) (hgu _ (by omega)).1 ?_
        refine T_iret dX6_ofGuest_57 rfl ?_
        rw [show aGuest a (nI k) w = nI (a 5 k) from (if_pos h11).trans ((if_pos e17).trans (by rw [ik]))]; exact rt_i
      | 1, _, e17 =>
        refine T_ald0 dX6_ofGuest_58 ?_
        refine T_getR (q := nw) dX6_ofGuest_59 lf_X6_48 rfl rfl rfl ?_
        refine T_getR (q := nw + 2) dX6_ofGuest_62 lf_X6_97 (kT hnw) rfl (rT2 hnw) ?_
        refine T_ild1 dX6_ofGuest_65 ?_
        refine T_ialdN dX6_ofGuest_66 (kT2 hnw) (by rw [lT2 hnw]; omega) (hgu _ (by omega)).2.1 ?_
        refine T_iret dX6_ofGuest_67 rfl ?_
        rw [show aGuest a (nI k) w = nI (a 6 k) from (if_pos h11).trans ((if_neg (by rw [e17]; decide)).trans ((if_pos e17).trans (by rw [ik])))]; exact rt_i
      | 2, _, e17 =>
        refine T_ald0 dX6_ofGuest_68 ?_
        refine T_getR (q := nw) dX6_ofGuest_69 lf_X6_48 rfl rfl rfl ?_
        refine T_getR (q := nw + 3) dX6_ofGuest_72 lf_X6_100 (kT hnw) rfl (rT3 hnw) ?_
        refine T_ild1 dX6_ofGuest_75 ?_
        refine T_ialdN dX6_ofGuest_76 (kT3 hnw) (by rw [lT3 hnw]; omega) (hgu _ (by omega)).2.2 ?_
        refine T_iret dX6_ofGuest_77 rfl ?_
        rw [show aGuest a (nI k) w = nI (a 7 k) from (if_pos h11).trans ((if_neg (by rw [e17]; decide)).trans ((if_neg (by rw [e17]; decide)).trans ((if_pos e17).trans (by rw [ik]))))]; exact rt_i
      | 3, _, e17 =>
        refine T_ald0 dX6_ofGuest_78 ?_
        refine T_getR (q := nw) dX6_ofGuest_79 lf_X6_48 rfl rfl rfl ?_
        refine T_ild1 dX6_ofGuest_82 ?_
        refine T_invV1i (M' := mX4_minutesOf) dX6_ofGuest_83 ml_X6_103 imX4_minutesOf (kT hnw) (Nat.le_of_ble_eq_true rfl) rfl (Nat.le_of_ble_eq_true rfl) rfl (Nat.le_of_ble_eq_true rfl) (c_X4_minutesOf hnw hV hW hk) ?_
        refine T_iret dX6_ofGuest_86 rfl ?_
        rw [show aGuest a (nI k) w = nI (miN a k) from (if_pos h11).trans ((if_neg (by rw [e17]; decide)).trans ((if_neg (by rw [e17]; decide)).trans ((if_neg (by rw [e17]; decide)).trans ((if_pos e17).trans (by rw [ik])))))]; exact rt_i
      | j + 4, hj, _ => exact absurd hj (by simp)
    · refine T_bipush (v := -2) dX6_ofGuest_87 (by decide) ?_
      refine T_iret dX6_ofGuest_89 rfl ?_
      rw [show aGuest a (nI k) w = -2 from (if_pos h11).trans ((if_neg (e17 0 (by decide))).trans ((if_neg (e17 1 (by decide))).trans ((if_neg (e17 2 (by decide))).trans (if_neg (e17 3 (by decide))))))]; exact rt_i
  · refine T_iconst (v := -1) dX6_ofGuest_14 (by decide) ?_
    refine T_iret dX6_ofGuest_15 rfl ?_
    rw [show aGuest a x w = -1 from if_neg (by simp [h11])]; exact rt_i
set_option maxRecDepth 20000 in
theorem c_X6_ofDish {S : Nat → Nat → Int32} {L : Nat → Nat → Int64} {nw sp cd : Nat} {d : Nat} (hnw : nw = 19 ∨ nw = 28) {a : Nat → Nat → Nat} (hV : TV S nw a) (hWF : WFA a) {x w : Int32} : TT mX6_ofDish (d + 3) 0 [some (.ref 0), some (.int (x)), some (.int (w))] [] (S, L, (nw, sp, cd)) (rt (some (.int (aDish a x w))) (S, L, (nw, sp, cd))) := by
  obtain ⟨hg, hdn, hso, hbd, hrn, hgu, hdi, hre⟩ := id hV
  obtain ⟨b8, b6, b3, b64, br8⟩ := hWF.b
  refine T_ild1 dX6_ofDish_0 ?_
  refine T_ald0 dX6_ofDish_1 ?_
  refine T_getR (q := nw) dX6_ofDish_2 lf_X6_48 rfl rfl rfl ?_
  refine T_getN dX6_ofDish_5 lf_X6_106 (kT hnw) rfl hdn ?_
  refine T_invS2i (M' := mX6_isBelow) dX6_ofDish_8 ml_X6_64 imX6_isBelow (Nat.le_of_ble_eq_true rfl) rfl (Nat.le_of_ble_eq_true rfl) (c_X6_isBelow (by omega)) ?_
  refine T_ifneB (tgt := 16) dX6_ofDish_11 (by decide) (fun h11 => ?_) (fun h11 => ?_)
  · obtain ⟨k, hk, rfl⟩ := blw_t h11
    have ik : ix (nI k) = k := ix_n (by omega)
    have hW := hWF.d (by omega)
    obtain ⟨w3, w8, wd1, wd6, wso, wb, wbs, wbp, wne, wrn, wgu, wdi, wre⟩ := id hW
    refine T_ild2 dX6_ofDish_16 ?_
    refine T_sw (a := 0) [44, 54, 64] 80 dX6_ofDish_17 (by decide) (by decide) (by decide) (by decide) (fun j hj e17 => ?_) (fun e17 => ?_)
    · match j, hj, e17 with
      | 0, _, e17 =>
        refine T_ald0 dX6_ofDish_44 ?_
        refine T_getR (q := nw) dX6_ofDish_45 lf_X6_48 rfl rfl rfl ?_
        refine T_getR (q := nw + 5) dX6_ofDish_48 lf_X6_109 (kT hnw) rfl (rT5 hnw) ?_
        refine T_ild1 dX6_ofDish_51 ?_
        refine T_ialdN dX6_ofDish_52 (kT5 hnw) (by rw [lT5 hnw]; omega) (hdi _ (by omega)).1 ?_
        refine T_iret dX6_ofDish_53 rfl ?_
        rw [show aDish a (nI k) w = nI (a 8 k) from (if_pos h11).trans ((if_pos e17).trans (by rw [ik]))]; exact rt_i
      | 1, _, e17 =>
        refine T_ald0 dX6_ofDish_54 ?_
        refine T_getR (q := nw) dX6_ofDish_55 lf_X6_48 rfl rfl rfl ?_
        refine T_getR (q := nw + 6) dX6_ofDish_58 lf_X6_112 (kT hnw) rfl (rT6 hnw) ?_
        refine T_ild1 dX6_ofDish_61 ?_
        refine T_ialdN dX6_ofDish_62 (kT6 hnw) (by rw [lT6 hnw]; omega) (hdi _ (by omega)).2 ?_
        refine T_iret dX6_ofDish_63 rfl ?_
        rw [show aDish a (nI k) w = nI (a 9 k) from (if_pos h11).trans ((if_neg (by rw [e17]; decide)).trans ((if_pos e17).trans (by rw [ik])))]; exact rt_i
      | 2, _, e17 =>
        refine T_ald0 dX6_ofDish_64 ?_
        refine T_getR (q := nw) dX6_ofDish_65 lf_X6_48 rfl rfl rfl ?_
        refine T_ild1 dX6_ofDish_68 ?_
        refine T_ald0 dX6_ofDish_69 ?_
        refine T_getR (q := nw) dX6_ofDish_70 lf_X6_48 rfl rfl rfl ?_
        refine T_getN dX6_ofDish_73 lf_X6_115 (kT hnw) rfl hbd ?_
        refine T_invV2i (M' := mX4_ownerOfDish) dX6_ofDish_76 ml_X6_118 imX4_ownerOfDish (kT hnw) (Nat.le_of_ble_eq_true rfl) rfl (Nat.le_of_ble_eq_true rfl) rfl (Nat.le_of_ble_eq_true rfl) (c_X4_ownerOfDish hnw hV hW wb wbs wbp hk) ?_
        refine T_iret dX6_ofDish_79 rfl ?_
        rw [show aDish a (nI k) w = who (a 0 0) (a 8 k) (a 3 0 / 8) (a 3 0 % 8) from (if_pos h11).trans ((if_neg (by rw [e17]; decide)).trans ((if_neg (by rw [e17]; decide)).trans ((if_pos e17).trans (by rw [ik]))))]; exact rt_i
      | j + 3, hj, _ => exact absurd hj (by simp)
    · refine T_bipush (v := -2) dX6_ofDish_80 (by decide) ?_
      refine T_iret dX6_ofDish_82 rfl ?_
      rw [show aDish a (nI k) w = -2 from (if_pos h11).trans ((if_neg (e17 0 (by decide))).trans ((if_neg (e17 1 (by decide))).trans (if_neg (e17 2 (by decide)))))]; exact rt_i
  · refine T_iconst (v := -1) dX6_ofDish_14 (by decide) ?_
    refine T_iret dX6_ofDish_15 rfl ?_
    rw [show aDish a x w = -1 from if_neg (by simp [h11])]; exact rt_i
set_option maxRecDepth 20000 in
theorem c_X6_whose {S : Nat → Nat → Int32} {L : Nat → Nat → Int64} {nw sp cd : Nat} {d : Nat} (hnw : nw = 19 ∨ nw = 28) {a : Nat → Nat → Nat} (hV : TV S nw a) (hWF : WFA a) {x : Int32} : TT mX6_whose (d + 2) 0 [some (.ref 0), some (.int (x))] [] (S, L, (nw, sp, cd)) (rt (some (.int (aWhose a x))) (S, L, (nw, sp, cd))) := by
  obtain ⟨hg, hdn, hso, hbd, hrn, hgu, hdi, hre⟩ := id hV
  obtain ⟨b8, b6, b3, b64, br8⟩ := hWF.b
  refine T_ild1 dX6_whose_0 ?_
  refine T_ald0 dX6_whose_1 ?_
  refine T_getR (q := nw) dX6_whose_2 lf_X6_48 rfl rfl rfl ?_
  refine T_getN dX6_whose_5 lf_X6_91 (kT hnw) rfl hg ?_
  refine T_invS2i (M' := mX6_isBelow) dX6_whose_8 ml_X6_64 imX6_isBelow (Nat.le_of_ble_eq_true rfl) rfl (Nat.le_of_ble_eq_true rfl) (c_X6_isBelow (by omega)) ?_
  refine T_ifneB (tgt := 16) dX6_whose_11 (by decide) (fun h11 => ?_) (fun h11 => ?_)
  · obtain ⟨k, hk, rfl⟩ := blw_t h11
    have ik : ix (nI k) = k := ix_n (by omega)
    have hW := hWF.g (by omega)
    obtain ⟨w3, w8, wd1, wd6, wso, wb, wbs, wbp, wne, wrn, wgu, wdi, wre⟩ := id hW
    refine T_ald0 dX6_whose_16 ?_
    refine T_getR (q := nw) dX6_whose_17 lf_X6_48 rfl rfl rfl ?_
    refine T_ild1 dX6_whose_20 ?_
    refine T_ald0 dX6_whose_21 ?_
    refine T_getR (q := nw) dX6_whose_22 lf_X6_48 rfl rfl rfl ?_
    refine T_getN dX6_whose_25 lf_X6_115 (kT hnw) rfl hbd ?_
    refine T_invV2i (M' := mX4_ownerOf) dX6_whose_28 ml_X6_122 imX4_ownerOf (kT hnw) (Nat.le_of_ble_eq_true rfl) rfl (Nat.le_of_ble_eq_true rfl) rfl (Nat.le_of_ble_eq_true rfl) (c_X4_ownerOf hnw hg b8 hk wb wbs wbp) ?_
    refine T_iret dX6_whose_31 rfl ?_
    rw [show aWhose a (nI k) = who (a 0 0) k (a 3 0 / 8) (a 3 0 % 8) from (if_pos h11).trans (by rw [ik])]; exact rt_i
  · refine T_iconst (v := -1) dX6_whose_14 (by decide) ?_
    refine T_iret dX6_whose_15 rfl ?_
    rw [show aWhose a x = -1 from if_neg (by simp [h11])]; exact rt_i
set_option maxRecDepth 20000 in
theorem c_X6_land {S : Nat → Nat → Int32} {L : Nat → Nat → Int64} {nw sp cd : Nat} {d : Nat} (hnw : nw = 19 ∨ nw = 28) {a : Nat → Nat → Nat} (hV : TV S nw a) (hWF : WFA a) {x : Int32} : TT mX6_land (d + 3) 0 [some (.ref 0), some (.int (x))] [] (S, L, (nw, sp, cd)) (rt (some (.int (aLand a x))) (S, L, (nw, sp, cd))) := by
  obtain ⟨hg, hdn, hso, hbd, hrn, hgu, hdi, hre⟩ := id hV
  obtain ⟨b8, b6, b3, b64, br8⟩ := hWF.b
  refine T_ild1 dX6_land_0 ?_
  refine T_iconst (v := nI 2) dX6_land_1 (by decide) ?_
  refine T_invS2i (M' := mX6_isBelow) dX6_land_2 ml_X6_64 imX6_isBelow (Nat.le_of_ble_eq_true rfl) rfl (Nat.le_of_ble_eq_true rfl) (c_X6_isBelow (by omega)) ?_
  refine T_ifneB (tgt := 10) dX6_land_5 (by decide) (fun h5 => ?_) (fun h5 => ?_)
  · obtain ⟨c, hc, rfl⟩ := blw_t h5
    have ic : ix (nI c) = c := ix_n (by omega)
    refine T_ald0 dX6_land_10 ?_
    refine T_getR (q := nw) dX6_land_11 lf_X6_48 rfl rfl rfl ?_
    refine T_invV0i (M' := mX4_isLaid) dX6_land_14 ml_X6_125 imX4_isLaid (kT hnw) (Nat.le_of_ble_eq_true rfl) rfl (Nat.le_of_ble_eq_true rfl) rfl (Nat.le_of_ble_eq_true rfl) (c_X4_isLaid hnw hg b8) ?_
    refine T_ifneB (tgt := 23) dX6_land_17 (by decide) (fun h17 => ?_) (fun h17 => ?_)
    · have h0 : 0 < a 0 0 := of_decide_eq_true h17
      have hW := hWF.g h0
      obtain ⟨w3, w8, wd1, wd6, wso, wb, wbs, wbp, wne, wrn, wgu, wdi, wre⟩ := id hW
      refine T_ald0 dX6_land_23 ?_
      refine T_getR (q := nw) dX6_land_24 lf_X6_48 rfl rfl rfl ?_
      refine T_ild1 dX6_land_27 ?_
      refine T_ald0 dX6_land_28 ?_
      refine T_getR (q := nw) dX6_land_29 lf_X6_48 rfl rfl rfl ?_
      refine T_getN dX6_land_32 lf_X6_115 (kT hnw) rfl hbd ?_
      refine T_invV2i (M' := mX4_landOf) dX6_land_35 ml_X6_129 imX4_landOf (kT hnw) (Nat.le_of_ble_eq_true rfl) rfl (Nat.le_of_ble_eq_true rfl) rfl (Nat.le_of_ble_eq_true rfl) (c_X4_landOf hnw hV hW wb wbs wbp) ?_
      refine T_iret dX6_land_38 rfl ?_
      rw [show aLand a (nI c) = nI (land a c (a 3 0)) from (if_pos h5).trans ((if_neg (by omega)).trans (by rw [ic]))]; exact rt_i
    · refine T_bipush (v := -3) dX6_land_20 (by decide) ?_
      refine T_iret dX6_land_22 rfl ?_
      rw [show aLand a (nI c) = -3 from (if_pos h5).trans (if_pos (by have := of_decide_eq_false h17; omega))]; exact rt_i
  · refine T_iconst (v := -1) dX6_land_8 (by decide) ?_
    refine T_iret dX6_land_9 rfl ?_
    rw [show aLand a x = -1 from if_neg (by simp [h5])]; exact rt_i
set_option maxRecDepth 20000 in
theorem c_X6_chew {S : Nat → Nat → Int32} {L : Nat → Nat → Int64} {nw sp cd : Nat} {d : Nat} (hnw : nw = 19 ∨ nw = 28) {a : Nat → Nat → Nat} (hV : TV S nw a) (hWF : WFA a) {x v : Int32} : TT mX6_chew (d + 1) 0 [some (.ref 0), some (.int (x)), some (.int (v)), none] [] (S, L, (nw, sp, cd)) (fun r σ' => ∃ S', σ' = (S', L, (nw, sp, cd)) ∧ r = some (.int (aChew a x v)) ∧ TV S' nw (sChew a x v) ∧ FC S S') := by
  obtain ⟨hg, hdn, hso, hbd, hrn, hgu, hdi, hre⟩ := id hV
  obtain ⟨b8, b6, b3, b64, br8⟩ := hWF.b
  refine T_ild1 dX6_chew_0 ?_
  refine T_ald0 dX6_chew_1 ?_
  refine T_getR (q := nw) dX6_chew_2 lf_X6_48 rfl rfl rfl ?_
  refine T_getN dX6_chew_5 lf_X6_91 (kT hnw) rfl hg ?_
  refine T_invS2i (M' := mX6_isBelow) dX6_chew_8 ml_X6_64 imX6_isBelow (Nat.le_of_ble_eq_true rfl) rfl (Nat.le_of_ble_eq_true rfl) (c_X6_isBelow (by omega)) ?_
  refine T_ifneB (tgt := 16) dX6_chew_11 (by decide) (fun h11 => ?_) (fun h11 => ?_)
  · obtain ⟨k, hk, rfl⟩ := blw_t h11
    have ik : ix (nI k) = k := ix_n (by omega)
    have hW := hWF.g (by omega)
    obtain ⟨w3, w8, wd1, wd6, wso, wb, wbs, wbp, wne, wrn, wgu, wdi, wre⟩ := id hW
    refine T_ild2 dX6_chew_16 ?_
    refine T_bipush (v := nI 10) dX6_chew_17 (by decide) ?_
    refine T_invS2i (M' := mX6_isBelow) dX6_chew_19 ml_X6_64 imX6_isBelow (Nat.le_of_ble_eq_true rfl) rfl (Nat.le_of_ble_eq_true rfl) (c_X6_isBelow (by omega)) ?_
    refine T_ifneB (tgt := 28) dX6_chew_22 (by decide) (fun h22 => ?_) (fun h22 => ?_)
    · obtain ⟨m, hm, rfl⟩ := blw_t h22
      have im : ix (nI m) = m := ix_n (by omega)
      refine T_ald0 dX6_chew_28 ?_
      refine T_getR (q := nw) dX6_chew_29 lf_X6_48 rfl rfl rfl ?_
      refine T_getR (q := nw + 2) dX6_chew_32 lf_X6_97 (kT hnw) rfl (rT2 hnw) ?_
      refine T_ild1 dX6_chew_35 ?_
      refine T_ialdN dX6_chew_36 (kT2 hnw) (by rw [lT2 hnw]; omega) (hgu _ (by omega)).2.1 ?_
      refine T_ist3 dX6_chew_37 (by decide) rfl ?_
      refine T_ald0 dX6_chew_38 ?_
      refine T_getR (q := nw) dX6_chew_39 lf_X6_48 rfl rfl rfl ?_
      refine T_getR (q := nw + 2) dX6_chew_42 lf_X6_97 (kT hnw) rfl (rT2 hnw) ?_
      refine T_ild1 dX6_chew_45 ?_
      refine T_ild2 dX6_chew_46 ?_
      refine T_iast dX6_chew_47 (kT2 hnw) (by rw [lT2 hnw]; omega) rfl ?_
      refine T_ild3 dX6_chew_48 ?_
      refine T_iret dX6_chew_49 rfl ?_
      rw [show sChew a (nI k) (nI m) = setA a 6 k m from (if_pos (by rw [h11, h22]; rfl)).trans (by rw [ik, im]), show aChew a (nI k) (nI m) = nI (a 6 k) from (if_pos h11).trans ((if_pos h22).trans (by rw [ik]))]; exact ⟨_, rfl, rfl, TV_mouth hV, FC_u (FC_r) (by omega) (by omega)⟩
    · refine T_bipush (v := -2) dX6_chew_25 (by decide) ?_
      refine T_iret dX6_chew_27 rfl ?_
      rw [show sChew a (nI k) v = a from if_neg (by simp [h11, h22]), show aChew a (nI k) v = -2 from (if_pos h11).trans (if_neg (by simp [h22]))]; exact ⟨_, rfl, rfl, hV, FC_r⟩
  · refine T_iconst (v := -1) dX6_chew_14 (by decide) ?_
    refine T_iret dX6_chew_15 rfl ?_
    rw [show sChew a x v = a from if_neg (by simp [h11]), show aChew a x v = -1 from if_neg (by simp [h11])]; exact ⟨_, rfl, rfl, hV, FC_r⟩
set_option maxRecDepth 20000 in
theorem c_X6_rate {S : Nat → Nat → Int32} {L : Nat → Nat → Int64} {nw sp cd : Nat} {d : Nat} (hnw : nw = 19 ∨ nw = 28) {a : Nat → Nat → Nat} (hV : TV S nw a) (hWF : WFA a) {x v : Int32} : TT mX6_rate (d + 1) 0 [some (.ref 0), some (.int (x)), some (.int (v)), none] [] (S, L, (nw, sp, cd)) (fun r σ' => ∃ S', σ' = (S', L, (nw, sp, cd)) ∧ r = some (.int (aRate a x v)) ∧ TV S' nw (sRate a x v) ∧ FC S S') := by
  obtain ⟨hg, hdn, hso, hbd, hrn, hgu, hdi, hre⟩ := id hV
  obtain ⟨b8, b6, b3, b64, br8⟩ := hWF.b
  refine T_ild1 dX6_rate_0 ?_
  refine T_ald0 dX6_rate_1 ?_
  refine T_getR (q := nw) dX6_rate_2 lf_X6_48 rfl rfl rfl ?_
  refine T_getN dX6_rate_5 lf_X6_106 (kT hnw) rfl hdn ?_
  refine T_invS2i (M' := mX6_isBelow) dX6_rate_8 ml_X6_64 imX6_isBelow (Nat.le_of_ble_eq_true rfl) rfl (Nat.le_of_ble_eq_true rfl) (c_X6_isBelow (by omega)) ?_
  refine T_ifneB (tgt := 16) dX6_rate_11 (by decide) (fun h11 => ?_) (fun h11 => ?_)
  · obtain ⟨k, hk, rfl⟩ := blw_t h11
    have ik : ix (nI k) = k := ix_n (by omega)
    have hW := hWF.d (by omega)
    obtain ⟨w3, w8, wd1, wd6, wso, wb, wbs, wbp, wne, wrn, wgu, wdi, wre⟩ := id hW
    refine T_ild2 dX6_rate_16 ?_
    refine T_bipush (v := nI 10) dX6_rate_17 (by decide) ?_
    refine T_invS2i (M' := mX6_isBelow) dX6_rate_19 ml_X6_64 imX6_isBelow (Nat.le_of_ble_eq_true rfl) rfl (Nat.le_of_ble_eq_true rfl) (c_X6_isBelow (by omega)) ?_
    refine T_ifneB (tgt := 28) dX6_rate_22 (by decide) (fun h22 => ?_) (fun h22 => ?_)
    · obtain ⟨m, hm, rfl⟩ := blw_t h22
      have im : ix (nI m) = m := ix_n (by omega)
      refine T_ald0 dX6_rate_28 ?_
      refine T_getR (q := nw) dX6_rate_29 lf_X6_48 rfl rfl rfl ?_
      refine T_getR (q := nw + 6) dX6_rate_32 lf_X6_112 (kT hnw) rfl (rT6 hnw) ?_
      refine T_ild1 dX6_rate_35 ?_
      refine T_ialdN dX6_rate_36 (kT6 hnw) (by rw [lT6 hnw]; omega) (hdi _ (by omega)).2 ?_
      refine T_ist3 dX6_rate_37 (by decide) rfl ?_
      refine T_ald0 dX6_rate_38 ?_
      refine T_getR (q := nw) dX6_rate_39 lf_X6_48 rfl rfl rfl ?_
      refine T_getR (q := nw + 6) dX6_rate_42 lf_X6_112 (kT hnw) rfl (rT6 hnw) ?_
      refine T_ild1 dX6_rate_45 ?_
      refine T_ild2 dX6_rate_46 ?_
      refine T_iast dX6_rate_47 (kT6 hnw) (by rw [lT6 hnw]; omega) rfl ?_
      refine T_ild3 dX6_rate_48 ?_
      refine T_iret dX6_rate_49 rfl ?_
      rw [show sRate a (nI k) (nI m) = setA a 9 k m from (if_pos (by rw [h11, h22]; rfl)).trans (by rw [ik, im]), show aRate a (nI k) (nI m) = nI (a 9 k) from (if_pos h11).trans ((if_pos h22).trans (by rw [ik]))]; exact ⟨_, rfl, rfl, TV_worth hV, FC_u (FC_r) (by omega) (by omega)⟩
    · refine T_bipush (v := -2) dX6_rate_25 (by decide) ?_
      refine T_iret dX6_rate_27 rfl ?_
      rw [show sRate a (nI k) v = a from if_neg (by simp [h11, h22]), show aRate a (nI k) v = -2 from (if_pos h11).trans (if_neg (by simp [h22]))]; exact ⟨_, rfl, rfl, hV, FC_r⟩
  · refine T_iconst (v := -1) dX6_rate_14 (by decide) ?_
    refine T_iret dX6_rate_15 rfl ?_
    rw [show sRate a x v = a from if_neg (by simp [h11]), show aRate a x v = -1 from if_neg (by simp [h11])]; exact ⟨_, rfl, rfl, hV, FC_r⟩
set_option maxRecDepth 20000 in
theorem c_X6_carry {S : Nat → Nat → Int32} {L : Nat → Nat → Int64} {nw sp cd : Nat} {d : Nat} (hnw : nw = 19 ∨ nw = 28) {a : Nat → Nat → Nat} (hV : TV S nw a) (hWF : WFA a) {x v : Int32} : TT mX6_carry (d + 1) 0 [some (.ref 0), some (.int (x)), some (.int (v)), none] [] (S, L, (nw, sp, cd)) (fun r σ' => ∃ S', σ' = (S', L, (nw, sp, cd)) ∧ r = some (.int (aCarry a x v)) ∧ TV S' nw (sCarry a x v) ∧ FC S S') := by
  obtain ⟨hg, hdn, hso, hbd, hrn, hgu, hdi, hre⟩ := id hV
  obtain ⟨b8, b6, b3, b64, br8⟩ := hWF.b
  refine T_ild1 dX6_carry_0 ?_
  refine T_ald0 dX6_carry_1 ?_
  refine T_getR (q := nw) dX6_carry_2 lf_X6_48 rfl rfl rfl ?_
  refine T_getN dX6_carry_5 lf_X6_106 (kT hnw) rfl hdn ?_
  refine T_invS2i (M' := mX6_isBelow) dX6_carry_8 ml_X6_64 imX6_isBelow (Nat.le_of_ble_eq_true rfl) rfl (Nat.le_of_ble_eq_true rfl) (c_X6_isBelow (by omega)) ?_
  refine T_ifeqB (tgt := 28) dX6_carry_11 (by decide) (fun h11 => ?_) (fun h11 => ?_)
  · refine T_iconst (v := -1) dX6_carry_28 (by decide) ?_
    refine T_iret dX6_carry_29 rfl ?_
    rw [show sCarry a x v = a from if_neg (by first | (simp [h11]; done) | simp [h11, h25]), show aCarry a x v = -1 from if_neg (by first | (simp [h11]; done) | simp [h11, h25])]; exact ⟨_, rfl, rfl, hV, FC_r⟩
  · refine T_ild2 dX6_carry_14 ?_
    refine T_ald0 dX6_carry_15 ?_
    refine T_getR (q := nw) dX6_carry_16 lf_X6_48 rfl rfl rfl ?_
    refine T_getN dX6_carry_19 lf_X6_91 (kT hnw) rfl hg ?_
    refine T_invS2i (M' := mX6_isBelow) dX6_carry_22 ml_X6_64 imX6_isBelow (Nat.le_of_ble_eq_true rfl) rfl (Nat.le_of_ble_eq_true rfl) (c_X6_isBelow (by omega)) ?_
    refine T_ifneB (tgt := 30) dX6_carry_25 (by decide) (fun h25 => ?_) (fun h25 => ?_)
    · obtain ⟨k, hk, rfl⟩ := blw_t h11
      have ik : ix (nI k) = k := ix_n (by omega)
      have hW := hWF.d (by omega)
      obtain ⟨w3, w8, wd1, wd6, wso, wb, wbs, wbp, wne, wrn, wgu, wdi, wre⟩ := id hW
      obtain ⟨m, hm, rfl⟩ := blw_t h25
      have im : ix (nI m) = m := ix_n (by omega)
      refine T_ald0 dX6_carry_30 ?_
      refine T_getR (q := nw) dX6_carry_31 lf_X6_48 rfl rfl rfl ?_
      refine T_getR (q := nw + 5) dX6_carry_34 lf_X6_109 (kT hnw) rfl (rT5 hnw) ?_
      refine T_ild1 dX6_carry_37 ?_
      refine T_ialdN dX6_carry_38 (kT5 hnw) (by rw [lT5 hnw]; omega) (hdi _ (by omega)).1 ?_
      refine T_ist3 dX6_carry_39 (by decide) rfl ?_
      refine T_ald0 dX6_carry_40 ?_
      refine T_getR (q := nw) dX6_carry_41 lf_X6_48 rfl rfl rfl ?_
      refine T_getR (q := nw + 5) dX6_carry_44 lf_X6_109 (kT hnw) rfl (rT5 hnw) ?_
      refine T_ild1 dX6_carry_47 ?_
      refine T_ild2 dX6_carry_48 ?_
      refine T_iast dX6_carry_49 (kT5 hnw) (by rw [lT5 hnw]; omega) rfl ?_
      refine T_ild3 dX6_carry_50 ?_
      refine T_iret dX6_carry_51 rfl ?_
      rw [show sCarry a (nI k) (nI m) = setA a 8 k m from (if_pos (by rw [h11, h25]; rfl)).trans (by rw [ik, im]), show aCarry a (nI k) (nI m) = nI (a 8 k) from (if_pos (by rw [h11, h25]; rfl)).trans (by rw [ik])]; exact ⟨_, rfl, rfl, TV_seat hV, FC_u (FC_r) (by omega) (by omega)⟩
    · refine T_iconst (v := -1) dX6_carry_28 (by decide) ?_
      refine T_iret dX6_carry_29 rfl ?_
      rw [show sCarry a x v = a from if_neg (by first | (simp [h11]; done) | simp [h11, h25]), show aCarry a x v = -1 from if_neg (by first | (simp [h11]; done) | simp [h11, h25])]; exact ⟨_, rfl, rfl, hV, FC_r⟩
set_option maxRecDepth 20000 in
theorem c_X6_cook {S : Nat → Nat → Int32} {L : Nat → Nat → Int64} {nw sp cd : Nat} {d : Nat} (hnw : nw = 19 ∨ nw = 28) {a : Nat → Nat → Nat} (hV : TV S nw a) (hWF : WFA a) {v : Int32} : TT mX6_cook (d + 1) 0 [some (.ref 0), some (.int (v)), none] [] (S, L, (nw, sp, cd)) (fun r σ' => ∃ S', σ' = (S', L, (nw, sp, cd)) ∧ r = some (.int (aCook a v)) ∧ TV S' nw (sCook a v) ∧ FC S S') := by
  obtain ⟨hg, hdn, hso, hbd, hrn, hgu, hdi, hre⟩ := id hV
  obtain ⟨b8, b6, b3, b64, br8⟩ := hWF.b
  refine T_ild1 dX6_cook_0 ?_
  refine T_iconst (v := nI 4) dX6_cook_1 (by decide) ?_
  refine T_invS2i (M' := mX6_isBelow) dX6_cook_2 ml_X6_64 imX6_isBelow (Nat.le_of_ble_eq_true rfl) rfl (Nat.le_of_ble_eq_true rfl) (c_X6_isBelow (by omega)) ?_
  refine T_ifneB (tgt := 11) dX6_cook_5 (by decide) (fun h5 => ?_) (fun h5 => ?_)
  · obtain ⟨m, hm, rfl⟩ := blw_t h5
    have im : ix (nI m) = m := ix_n (by omega)
    refine T_ald0 dX6_cook_11 ?_
    refine T_getR (q := nw) dX6_cook_12 lf_X6_48 rfl rfl rfl ?_
    refine T_invV0i (M' := mX4_isLaid) dX6_cook_15 ml_X6_125 imX4_isLaid (kT hnw) (Nat.le_of_ble_eq_true rfl) rfl (Nat.le_of_ble_eq_true rfl) rfl (Nat.le_of_ble_eq_true rfl) (c_X4_isLaid hnw hg b8) ?_
    refine T_ifneB (tgt := 24) dX6_cook_18 (by decide) (fun h18 => ?_) (fun h18 => ?_)
    · have h0 : 0 < a 0 0 := of_decide_eq_true h18
      have hW := hWF.g h0
      obtain ⟨w3, w8, wd1, wd6, wso, wb, wbs, wbp, wne, wrn, wgu, wdi, wre⟩ := id hW
      refine T_ald0 dX6_cook_24 ?_
      refine T_getR (q := nw) dX6_cook_25 lf_X6_48 rfl rfl rfl ?_
      refine T_getN dX6_cook_28 lf_X6_132 (kT hnw) rfl hso ?_
      refine T_ist2 dX6_cook_31 (by decide) rfl ?_
      refine T_ald0 dX6_cook_32 ?_
      refine T_getR (q := nw) dX6_cook_33 lf_X6_48 rfl rfl rfl ?_
      refine T_ild1 dX6_cook_36 ?_
      refine T_putI dX6_cook_37 lf_X6_132 (kT hnw) rfl rfl rfl ?_
      refine T_ild2 dX6_cook_40 ?_
      refine T_iret dX6_cook_41 rfl ?_
      rw [show sCook a (nI m) = setA a 2 0 m from (if_pos (by rw [h5, decide_eq_false (show ¬ a 0 0 = 0 by omega)]; rfl)).trans (by rw [im]), show aCook a (nI m) = nI (a 2 0) from (if_pos h5).trans (if_neg (by omega))]; exact ⟨_, rfl, rfl, TV_num (Or.inl ⟨rfl, rfl⟩) hV, FC_u (FC_r) (by omega) (by omega)⟩
    · refine T_bipush (v := -3) dX6_cook_21 (by decide) ?_
      refine T_iret dX6_cook_23 rfl ?_
      rw [show sCook a (nI m) = a from if_neg (by rw [h5, decide_eq_true (show a 0 0 = 0 by have := of_decide_eq_false h18; omega)]; decide), show aCook a (nI m) = -3 from (if_pos h5).trans (if_pos (by have := of_decide_eq_false h18; omega))]; exact ⟨_, rfl, rfl, hV, FC_r⟩
  · refine T_bipush (v := -2) dX6_cook_8 (by decide) ?_
    refine T_iret dX6_cook_10 rfl ?_
    rw [show sCook a v = a from if_neg (by simp [h5]), show aCook a v = -2 from if_neg (by simp [h5])]; exact ⟨_, rfl, rfl, hV, FC_r⟩
set_option maxRecDepth 20000 in
theorem c_X6_pass {S : Nat → Nat → Int32} {L : Nat → Nat → Int64} {nw sp cd : Nat} {d : Nat} (hnw : nw = 19 ∨ nw = 28) {a : Nat → Nat → Nat} (hV : TV S nw a) (hWF : WFA a) {x : Int32} : TT mX6_pass (d + 3) 0 [some (.ref 0), some (.int (x)), none, none] [] (S, L, (nw, sp, cd)) (fun r σ' => ∃ S', σ' = (S', L, (nw, sp, cd)) ∧ r = some (.int (aPass a x)) ∧ TV S' nw (sPass a x) ∧ FC S S') := by
  obtain ⟨hg, hdn, hso, hbd, hrn, hgu, hdi, hre⟩ := id hV
  obtain ⟨b8, b6, b3, b64, br8⟩ := hWF.b
  cases hb : blw x 4 with
  | false =>
    refine T_ild1 dX6_pass_0 ?_
    refine T_iconst (v := nI 4) dX6_pass_1 (by decide) ?_
    refine T_invS2i (M' := mX6_isBelow) dX6_pass_2 ml_X6_64 imX6_isBelow (Nat.le_of_ble_eq_true rfl) rfl (Nat.le_of_ble_eq_true rfl) (c_X6_isBelow (by omega)) ?_
    refine T_ifneB (tgt := 11) dX6_pass_5 (by decide) (fun h5 => by rw [h5] at hb; cases hb) (fun h5 => ?_)
    refine T_bipush (v := -2) dX6_pass_8 (by decide) ?_
    refine T_iret dX6_pass_10 rfl ?_
    rw [show sPass a x = a from if_neg (by simp [h5]), show aPass a x = -2 from if_neg (by simp [h5])]; exact ⟨_, rfl, rfl, hV, FC_r⟩
  | true =>
    obtain ⟨m, hm, rfl⟩ := blw_t hb
    have im : ix (nI m) = m := ix_n (by omega)
    by_cases hz : a 0 0 = 0
    · skip
      refine T_ild1 dX6_pass_0 ?_
      refine T_iconst (v := nI 4) dX6_pass_1 (by decide) ?_
      refine T_invS2i (M' := mX6_isBelow) dX6_pass_2 ml_X6_64 imX6_isBelow (Nat.le_of_ble_eq_true rfl) rfl (Nat.le_of_ble_eq_true rfl) (c_X6_isBelow (by omega)) ?_
      refine T_ifneB (tgt := 11) dX6_pass_5 (by decide) (fun h5 => ?_) (fun h5 => by rw [hb] at h5; cases h5)
      refine T_ald0 dX6_pass_11 ?_
      refine T_getR (q := nw) dX6_pass_12 lf_X6_48 rfl rfl rfl ?_
      refine T_invV0i (M' := mX4_isLaid) dX6_pass_15 ml_X6_125 imX4_isLaid (kT hnw) (Nat.le_of_ble_eq_true rfl) rfl (Nat.le_of_ble_eq_true rfl) rfl (Nat.le_of_ble_eq_true rfl) (c_X4_isLaid hnw hg b8) ?_
      refine T_ifneB (tgt := 24) dX6_pass_18 (by decide) (fun h18 => by exact absurd (of_decide_eq_true h18) (by omega)) (fun h18 => ?_)
      refine T_bipush (v := -3) dX6_pass_21 (by decide) ?_
      refine T_iret dX6_pass_23 rfl ?_
      rw [show sPass a (nI m) = a from if_neg (by rw [hb, decide_eq_true hz]; decide), show aPass a (nI m) = -3 from (if_pos hb).trans (if_pos hz)]; exact ⟨_, rfl, rfl, hV, FC_r⟩
    · have h0 : 0 < a 0 0 := by omega
      have hW := hWF.g h0
      obtain ⟨w3, w8, wd1, wd6, wso, wb, wbs, wbp, wne, wrn, wgu, wdi, wre⟩ := id hW
      have hsd : (if m < 2 then a 3 0 / 8 else a 3 0 % 8) < a 0 0 := by split <;> omega
      cases hbe : beh (a 0 0) (a 3 0) m with
      | none =>
        refine T_ild1 dX6_pass_0 ?_
        refine T_iconst (v := nI 4) dX6_pass_1 (by decide) ?_
        refine T_invS2i (M' := mX6_isBelow) dX6_pass_2 ml_X6_64 imX6_isBelow (Nat.le_of_ble_eq_true rfl) rfl (Nat.le_of_ble_eq_true rfl) (c_X6_isBelow (by omega)) ?_
        refine T_ifneB (tgt := 11) dX6_pass_5 (by decide) (fun h5 => ?_) (fun h5 => by rw [hb] at h5; cases h5)
        refine T_ald0 dX6_pass_11 ?_
        refine T_getR (q := nw) dX6_pass_12 lf_X6_48 rfl rfl rfl ?_
        refine T_invV0i (M' := mX4_isLaid) dX6_pass_15 ml_X6_125 imX4_isLaid (kT hnw) (Nat.le_of_ble_eq_true rfl) rfl (Nat.le_of_ble_eq_true rfl) rfl (Nat.le_of_ble_eq_true rfl) (c_X4_isLaid hnw hg b8) ?_
        refine T_ifneB (tgt := 24) dX6_pass_18 (by decide) (fun h18 => ?_) (fun h18 => by exact absurd h0 (of_decide_eq_false h18))
        refine T_ald0 dX6_pass_24 ?_
        refine T_getR (q := nw) dX6_pass_25 lf_X6_48 rfl rfl rfl ?_
        refine T_ald0 dX6_pass_28 ?_
        refine T_getR (q := nw) dX6_pass_29 lf_X6_48 rfl rfl rfl ?_
        refine T_getN dX6_pass_32 lf_X6_115 (kT hnw) rfl hbd ?_
        refine T_ild1 dX6_pass_35 ?_
        refine T_invV2i (M' := mX4_borderBehind) dX6_pass_36 ml_X6_135 imX4_borderBehind (kT hnw) (Nat.le_of_ble_eq_true rfl) rfl (Nat.le_of_ble_eq_true rfl) rfl (Nat.le_of_ble_eq_true rfl) (c_bb_n hnw hg b8 wb wbs wbp hm hbe) ?_
        refine T_ist2 dX6_pass_39 (by decide) rfl ?_
        refine T_ild2 dX6_pass_40 ?_
        refine T_bipush (v := -9) dX6_pass_41 (by decide) ?_
        refine T_cne (tgt := 49) dX6_pass_43 (by decide) (fun h43 => by exact absurd rfl h43) (fun h43 => ?_)
        refine T_bipush (v := -3) dX6_pass_46 (by decide) ?_
        refine T_iret dX6_pass_48 rfl ?_
        rw [show sPass a (nI m) = a from (if_pos (by rw [hb, decide_eq_false hz]; rfl)).trans (by rw [im, hbe]), show aPass a (nI m) = -3 from (if_pos hb).trans ((if_neg hz).trans (by rw [im, hbe]))]; exact ⟨_, rfl, rfl, hV, FC_r⟩
      | some b' =>
        refine T_ild1 dX6_pass_0 ?_
        refine T_iconst (v := nI 4) dX6_pass_1 (by decide) ?_
        refine T_invS2i (M' := mX6_isBelow) dX6_pass_2 ml_X6_64 imX6_isBelow (Nat.le_of_ble_eq_true rfl) rfl (Nat.le_of_ble_eq_true rfl) (c_X6_isBelow (by omega)) ?_
        refine T_ifneB (tgt := 11) dX6_pass_5 (by decide) (fun h5 => ?_) (fun h5 => by rw [hb] at h5; cases h5)
        refine T_ald0 dX6_pass_11 ?_
        refine T_getR (q := nw) dX6_pass_12 lf_X6_48 rfl rfl rfl ?_
        refine T_invV0i (M' := mX4_isLaid) dX6_pass_15 ml_X6_125 imX4_isLaid (kT hnw) (Nat.le_of_ble_eq_true rfl) rfl (Nat.le_of_ble_eq_true rfl) rfl (Nat.le_of_ble_eq_true rfl) (c_X4_isLaid hnw hg b8) ?_
        refine T_ifneB (tgt := 24) dX6_pass_18 (by decide) (fun h18 => ?_) (fun h18 => by exact absurd h0 (of_decide_eq_false h18))
        refine T_ald0 dX6_pass_24 ?_
        refine T_getR (q := nw) dX6_pass_25 lf_X6_48 rfl rfl rfl ?_
        refine T_ald0 dX6_pass_28 ?_
        refine T_getR (q := nw) dX6_pass_29 lf_X6_48 rfl rfl rfl ?_
        refine T_getN dX6_pass_32 lf_X6_115 (kT hnw) rfl hbd ?_
        refine T_ild1 dX6_pass_35 ?_
        refine T_invV2i (M' := mX4_borderBehind) dX6_pass_36 ml_X6_135 imX4_borderBehind (kT hnw) (Nat.le_of_ble_eq_true rfl) rfl (Nat.le_of_ble_eq_true rfl) rfl (Nat.le_of_ble_eq_true rfl) (c_bb_s hnw hg b8 wb wbs wbp hm hbe) ?_
        refine T_ist2 dX6_pass_39 (by decide) rfl ?_
        refine T_ild2 dX6_pass_40 ?_
        refine T_bipush (v := -9) dX6_pass_41 (by decide) ?_
        refine T_cne (tgt := 49) dX6_pass_43 (by decide) (fun h43 => ?_) (fun h43 => by exact absurd h43 (nI_m9 (by have := (beh_some b8 wbs wbp hbe).1; omega)))
        refine T_ald0 dX6_pass_49 ?_
        refine T_getR (q := nw) dX6_pass_50 lf_X6_48 rfl rfl rfl ?_
        refine T_ald0 dX6_pass_53 ?_
        refine T_getR (q := nw) dX6_pass_54 lf_X6_48 rfl rfl rfl ?_
        refine T_getN dX6_pass_57 lf_X6_115 (kT hnw) rfl hbd ?_
        refine T_ild1 dX6_pass_60 ?_
        refine T_invS2i (M' := mX6_standsAt) dX6_pass_61 ml_X6_138 imX6_standsAt (Nat.le_of_ble_eq_true rfl) rfl (Nat.le_of_ble_eq_true rfl) (c_X6_standsAt wb hm) ?_
        refine T_invV1i (M' := mX4_minutesOf) dX6_pass_64 ml_X6_103 imX4_minutesOf (kT hnw) (Nat.le_of_ble_eq_true rfl) rfl (Nat.le_of_ble_eq_true rfl) rfl (Nat.le_of_ble_eq_true rfl) (c_X4_minutesOf hnw hV hW hsd) ?_
        refine T_ist3 dX6_pass_67 (by decide) rfl ?_
        refine T_ald0 dX6_pass_68 ?_
        refine T_getR (q := nw) dX6_pass_69 lf_X6_48 rfl rfl rfl ?_
        refine T_ild2 dX6_pass_72 ?_
        refine T_putI dX6_pass_73 lf_X6_115 (kT hnw) rfl rfl rfl ?_
        refine T_ild3 dX6_pass_76 ?_
        refine T_iret dX6_pass_77 rfl ?_
        rw [show sPass a (nI m) = setA a 3 0 b' from (if_pos (by rw [hb, decide_eq_false hz]; rfl)).trans (by rw [im, hbe]), show aPass a (nI m) = nI (miN a (if m < 2 then a 3 0 / 8 else a 3 0 % 8)) from (if_pos hb).trans ((if_neg hz).trans (by rw [im, hbe]; rfl))]; exact ⟨_, rfl, rfl, TV_num (Or.inr ⟨rfl, rfl⟩) hV, FC_u (FC_r) (by omega) (by omega)⟩
set_option maxRecDepth 20000 in
theorem c_X6_reading {S : Nat → Nat → Int32} {L : Nat → Nat → Int64} {nw sp cd : Nat} {d : Nat} (hnw : nw = 19 ∨ nw = 28) {a : Nat → Nat → Nat} (hV : TV S nw a) (hWF : WFA a) {x v : Int32} : TT mX6_reading (d + 1) 0 [some (.ref 0), some (.int (x)), some (.int (v))] [] (S, L, (nw, sp, cd)) (fun r σ' => ∃ S', σ' = (S', L, (nw, sp, cd)) ∧ r = some (.int (aReading a x v)) ∧ TV S' nw (sReading a x v) ∧ FC S S') := by
  obtain ⟨hg, hdn, hso, hbd, hrn, hgu, hdi, hre⟩ := id hV
  obtain ⟨b8, b6, b3, b64, br8⟩ := hWF.b
  refine T_ild1 dX6_reading_0 ?_
  refine T_ald0 dX6_reading_1 ?_
  refine T_getR (q := nw) dX6_reading_2 lf_X6_48 rfl rfl rfl ?_
  refine T_getN dX6_reading_5 lf_X6_91 (kT hnw) rfl hg ?_
  refine T_invS2i (M' := mX6_isBelow) dX6_reading_8 ml_X6_64 imX6_isBelow (Nat.le_of_ble_eq_true rfl) rfl (Nat.le_of_ble_eq_true rfl) (c_X6_isBelow (by omega)) ?_
  refine T_ifneB (tgt := 16) dX6_reading_11 (by decide) (fun h11 => ?_) (fun h11 => ?_)
  · obtain ⟨k, hk, rfl⟩ := blw_t h11
    have ik : ix (nI k) = k := ix_n (by omega)
    have hW := hWF.g (by omega)
    obtain ⟨w3, w8, wd1, wd6, wso, wb, wbs, wbp, wne, wrn, wgu, wdi, wre⟩ := id hW
    refine T_ild2 dX6_reading_16 ?_
    refine T_bipush (v := nI 20) dX6_reading_17 (by decide) ?_
    refine T_invS2i (M' := mX6_isBelow) dX6_reading_19 ml_X6_64 imX6_isBelow (Nat.le_of_ble_eq_true rfl) rfl (Nat.le_of_ble_eq_true rfl) (c_X6_isBelow (by omega)) ?_
    refine T_ifneB (tgt := 28) dX6_reading_22 (by decide) (fun h22 => ?_) (fun h22 => ?_)
    · obtain ⟨m, hm, rfl⟩ := blw_t h22
      have im : ix (nI m) = m := ix_n (by omega)
      refine T_ald0 dX6_reading_28 ?_
      refine T_getR (q := nw) dX6_reading_29 lf_X6_48 rfl rfl rfl ?_
      refine T_getN dX6_reading_32 lf_X6_204 (kT hnw) rfl hrn ?_
      refine T_bipush (v := nI 8) dX6_reading_35 (by decide) ?_
      refine T_cltN (tgt := 43) dX6_reading_37 (by decide) (by omega) (by omega) (fun h37 => ?_) (fun h37 => ?_)
      · refine T_ald0 dX6_reading_43 ?_
        refine T_getR (q := nw) dX6_reading_44 lf_X6_48 rfl rfl rfl ?_
        refine T_getR (q := nw + 7) dX6_reading_47 lf_X6_207 (kT hnw) rfl (rT7 hnw) ?_
        refine T_ald0 dX6_reading_50 ?_
        refine T_getR (q := nw) dX6_reading_51 lf_X6_48 rfl rfl rfl ?_
        refine T_getN dX6_reading_54 lf_X6_204 (kT hnw) rfl hrn ?_
        refine T_ild1 dX6_reading_57 ?_
        refine T_iast dX6_reading_58 (kT7 hnw) (by rw [lT7 hnw]; omega) rfl ?_
        refine T_ald0 dX6_reading_59 ?_
        refine T_getR (q := nw) dX6_reading_60 lf_X6_48 rfl rfl rfl ?_
        refine T_getR (q := nw + 8) dX6_reading_63 lf_X6_210 (kT hnw) rfl (rT8 hnw) ?_
        refine T_ald0 dX6_reading_66 ?_
        refine T_getR (q := nw) dX6_reading_67 lf_X6_48 rfl rfl rfl ?_
        refine T_getN dX6_reading_70 lf_X6_204 (kT hnw) rfl (by rw [uI_p (by omega)]; exact hrn) ?_
        refine T_ild2 dX6_reading_73 ?_
        refine T_iast dX6_reading_74 (kT8 hnw) (by rw [lT8 hnw]; omega) rfl ?_
        refine T_ald0 dX6_reading_75 ?_
        refine T_getR (q := nw) dX6_reading_76 lf_X6_48 rfl rfl rfl ?_
        refine T_dup dX6_reading_79 rfl ?_
        refine T_getN dX6_reading_80 lf_X6_204 (kT hnw) rfl (by rw [uI_p (by omega)]; rw [uI_p (by omega)]; exact hrn) ?_
        refine T_iconst (v := nI 1) dX6_reading_83 (by decide) ?_
        refine T_iaddN dX6_reading_84 ?_
        refine T_putI dX6_reading_85 lf_X6_204 (kT hnw) rfl rfl rfl ?_
        refine T_ald0 dX6_reading_88 ?_
        refine T_getR (q := nw) dX6_reading_89 lf_X6_48 rfl rfl rfl ?_
        refine T_getN dX6_reading_92 lf_X6_204 (kT hnw) rfl uI_s ?_
        refine T_iconst (v := nI 1) dX6_reading_95 (by decide) ?_
        refine T_isubN dX6_reading_96 (by omega) ?_
        refine T_iret dX6_reading_97 rfl ?_
        rw [show sReading a (nI k) (nI m) = setA (setA (setA a 10 (a 4 0) k) 11 (a 4 0) m) 4 0 (a 4 0 + 1) from (if_pos (by rw [h11, h22, decide_eq_true (show a 4 0 < 8 by omega)]; rfl)).trans (by rw [ik, im]), show aReading a (nI k) (nI m) = nI (a 4 0 + 1 - 1) from (if_pos h11).trans ((if_pos h22).trans (if_pos (by omega)))]; exact ⟨_, rfl, rfl, TV_read hV, FC_u (FC_u (FC_u (FC_r) (by omega) (by omega)) (by omega) (by omega)) (by omega) (by omega)⟩
      · refine T_bipush (v := -4) dX6_reading_40 (by decide) ?_
        refine T_iret dX6_reading_42 rfl ?_
        rw [show sReading a (nI k) (nI m) = a from if_neg (by rw [h11, h22, decide_eq_false (show ¬ a 4 0 < 8 by omega)]; decide), show aReading a (nI k) (nI m) = -4 from (if_pos h11).trans ((if_pos h22).trans (if_neg (by omega)))]; exact ⟨_, rfl, rfl, hV, FC_r⟩
    · refine T_bipush (v := -2) dX6_reading_25 (by decide) ?_
      refine T_iret dX6_reading_27 rfl ?_
      rw [show sReading a (nI k) v = a from if_neg (by simp [h11, h22]), show aReading a (nI k) v = -2 from (if_pos h11).trans (if_neg (by simp [h22]))]; exact ⟨_, rfl, rfl, hV, FC_r⟩
  · refine T_iconst (v := -1) dX6_reading_14 (by decide) ?_
    refine T_iret dX6_reading_15 rfl ?_
    rw [show sReading a x v = a from if_neg (by simp [h11]), show aReading a x v = -1 from if_neg (by simp [h11])]; exact ⟨_, rfl, rfl, hV, FC_r⟩
set_option maxRecDepth 20000 in
theorem c_X6_back {S : Nat → Nat → Int32} {L : Nat → Nat → Int64} {nw sp cd : Nat} {d : Nat} (hnw : nw = 19 ∨ nw = 28) {a : Nat → Nat → Nat} (hV : TV S nw a) (hWF : WFA a) {x : Int32} : TT mX6_back (d + 1) 0 [some (.ref 0), some (.int (x))] [] (S, L, (nw, sp, cd)) (fun r σ' => ∃ S', σ' = (S', L, (nw, sp, cd)) ∧ r = some (.int (aBack a x)) ∧ TV S' nw (sBack a x) ∧ FC S S') := by
  obtain ⟨hg, hdn, hso, hbd, hrn, hgu, hdi, hre⟩ := id hV
  obtain ⟨b8, b6, b3, b64, br8⟩ := hWF.b
  refine T_ild1 dX6_back_0 ?_
  refine T_ald0 dX6_back_1 ?_
  refine T_getR (q := nw) dX6_back_2 lf_X6_48 rfl rfl rfl ?_
  refine T_getN dX6_back_5 lf_X6_204 (kT hnw) rfl hrn ?_
  refine T_iconst (v := nI 1) dX6_back_8 (by decide) ?_
  refine T_iaddN dX6_back_9 ?_
  refine T_invS2i (M' := mX6_isBelow) dX6_back_10 ml_X6_64 imX6_isBelow (Nat.le_of_ble_eq_true rfl) rfl (Nat.le_of_ble_eq_true rfl) (c_X6_isBelow (by omega)) ?_
  refine T_ifneB (tgt := 19) dX6_back_13 (by decide) (fun h13 => ?_) (fun h13 => ?_)
  · obtain ⟨k, hk, rfl⟩ := blw_t h13
    have ik : ix (nI k) = k := ix_n (by omega)
    refine T_ald0 dX6_back_19 ?_
    refine T_getR (q := nw) dX6_back_20 lf_X6_48 rfl rfl rfl ?_
    refine T_dup dX6_back_23 rfl ?_
    refine T_getN dX6_back_24 lf_X6_204 (kT hnw) rfl hrn ?_
    refine T_ild1 dX6_back_27 ?_
    refine T_isubN dX6_back_28 (by omega) ?_
    refine T_putI dX6_back_29 lf_X6_204 (kT hnw) rfl rfl rfl ?_
    refine T_ald0 dX6_back_32 ?_
    refine T_getR (q := nw) dX6_back_33 lf_X6_48 rfl rfl rfl ?_
    refine T_getN dX6_back_36 lf_X6_204 (kT hnw) rfl uI_s ?_
    refine T_iret dX6_back_39 rfl ?_
    rw [show sBack a (nI k) = setA a 4 0 (a 4 0 - k) from (if_pos h13).trans (by rw [ik]), show aBack a (nI k) = nI (a 4 0 - k) from (if_pos h13).trans (by rw [ik])]; exact ⟨_, rfl, rfl, TV_back (by omega) hV, FC_u (FC_r) (by omega) (by omega)⟩
  · refine T_bipush (v := -2) dX6_back_16 (by decide) ?_
    refine T_iret dX6_back_18 rfl ?_
    rw [show sBack a x = a from if_neg (by simp [h13]), show aBack a x = -2 from if_neg (by simp [h13])]; exact ⟨_, rfl, rfl, hV, FC_r⟩
set_option maxRecDepth 20000 in
theorem c_X6_mouths {S : Nat → Nat → Int32} {L : Nat → Nat → Int64} {nw sp cd : Nat} {d : Nat} (hnw : nw = 19 ∨ nw = 28) {a : Nat → Nat → Nat} (hV : TV S nw a) (hWF : WFA a) {x : Int32} : TT mX6_mouths (d + 3) 0 [some (.ref 0), some (.int (x)), none, none] [] (S, L, (nw, sp, cd)) (rt (some (.int (aMouths a x))) (S, L, (nw, sp, cd))) := by
  obtain ⟨hg, hdn, hso, hbd, hrn, hgu, hdi, hre⟩ := id hV
  obtain ⟨b8, b6, b3, b64, br8⟩ := hWF.b
  refine T_ild1 dX6_mouths_0 ?_
  refine T_ald0 dX6_mouths_1 ?_
  refine T_getR (q := nw) dX6_mouths_2 lf_X6_48 rfl rfl rfl ?_
  refine T_getN dX6_mouths_5 lf_X6_91 (kT hnw) rfl hg ?_
  refine T_invS2i (M' := mX6_isBelow) dX6_mouths_8 ml_X6_64 imX6_isBelow (Nat.le_of_ble_eq_true rfl) rfl (Nat.le_of_ble_eq_true rfl) (c_X6_isBelow (by omega)) ?_
  refine T_ifneB (tgt := 16) dX6_mouths_11 (by decide) (fun h11 => ?_) (fun h11 => ?_)
  · obtain ⟨k, hk, rfl⟩ := blw_t h11
    have ik : ix (nI k) = k := ix_n (by omega)
    have hW := hWF.g (by omega)
    obtain ⟨w3, w8, wd1, wd6, wso, wb, wbs, wbp, wne, wrn, wgu, wdi, wre⟩ := id hW
    refine T_iconst (v := nI 0) dX6_mouths_16 (by decide) ?_
    refine T_ist2 dX6_mouths_17 (by decide) rfl ?_
    refine T_iconst (v := nI 0) dX6_mouths_18 (by decide) ?_
    refine T_ist3 dX6_mouths_19 (by decide) rfl ?_
    have qk := wgu k hk
    refine up_ind (P := fun i => TT mX6_mouths (d + 3) 20 [some (.ref 0), some (.int (nI k)), some (.int (wsI (fun v => allN (rso a k (a 5 k) v (a 2 0)) (a 4 0)) i)), some (.int (nI i))] [] (S, L, (nw, sp, cd)) (rt (some (.int (aMouths a (nI k)))) (S, L, (nw, sp, cd)))) 10 ?_ ?_
    · refine T_ild3 dX6_mouths_20 ?_
      refine T_bipush (v := nI 10) dX6_mouths_21 (by decide) ?_
      refine T_cgeN (tgt := 66) dX6_mouths_23 (by decide) (by omega) (by omega) (fun h23 => ?_) (fun h23 => by exfalso; omega)
      refine T_ild2 dX6_mouths_66 ?_
      refine T_iret dX6_mouths_67 rfl ?_
      rw [show aMouths a (nI k) = wsI (fun v => allN (rso a k (a 5 k) v (a 2 0)) (a 4 0)) 10 from (if_pos h11).trans (by rw [ik])]; exact rt_i
    · intro i hi ih
      refine T_ild3 dX6_mouths_20 ?_
      refine T_bipush (v := nI 10) dX6_mouths_21 (by decide) ?_
      refine T_cgeN (tgt := 66) dX6_mouths_23 (by decide) (by omega) (by omega) (fun h23 => by exfalso; omega) (fun h23 => ?_)
      refine T_ald0 dX6_mouths_26 ?_
      refine T_getR (q := nw) dX6_mouths_27 lf_X6_48 rfl rfl rfl ?_
      refine T_ild1 dX6_mouths_30 ?_
      refine T_ald0 dX6_mouths_31 ?_
      refine T_getR (q := nw) dX6_mouths_32 lf_X6_48 rfl rfl rfl ?_
      refine T_getR (q := nw + 1) dX6_mouths_35 lf_X6_94 (kT hnw) rfl (rT1 hnw) ?_
      refine T_ild1 dX6_mouths_38 ?_
      refine T_ialdN dX6_mouths_39 (kT1 hnw) (by rw [lT1 hnw]; omega) (hgu _ (by omega)).1 ?_
      refine T_ild3 dX6_mouths_40 ?_
      refine T_ald0 dX6_mouths_41 ?_
      refine T_getR (q := nw) dX6_mouths_42 lf_X6_48 rfl rfl rfl ?_
      refine T_getN dX6_mouths_45 lf_X6_132 (kT hnw) rfl hso ?_
      refine T_invV4i (M' := mX4_areReadingsSo) dX6_mouths_48 ml_X6_213 imX4_areReadingsSo (kT hnw) (Nat.le_of_ble_eq_true rfl) rfl (Nat.le_of_ble_eq_true rfl) rfl (Nat.le_of_ble_eq_true rfl) (c_X4_areReadingsSo hnw hV hW (by omega) (by omega) (by omega) (by omega)) ?_
      refine T_ifeqB (tgt := 60) dX6_mouths_51 (by decide) (fun h51 => ?_) (fun h51 => ?_)
      · refine T_inc3N dX6_mouths_60 (by decide) rfl ?_
        refine T_goto (tgt := 20) dX6_mouths_63 (by decide) ?_
        first | (rw [wsI_f (f := fun v => allN (rso a k (a 5 k) v (a 2 0)) (a 4 0)) h51] at ih; exact ih) | (rw [wsI_t (f := fun v => allN (rso a k (a 5 k) v (a 2 0)) (a 4 0)) h51] at ih; exact ih)
      · refine T_ild2 dX6_mouths_54 ?_
        refine T_iconst (v := nI 1) dX6_mouths_55 (by decide) ?_
        refine T_ild3 dX6_mouths_56 ?_
        refine T_ishl dX6_mouths_57 ?_
        refine T_ior dX6_mouths_58 ?_
        refine T_ist2 dX6_mouths_59 (by decide) rfl ?_
        refine T_inc3N dX6_mouths_60 (by decide) rfl ?_
        refine T_goto (tgt := 20) dX6_mouths_63 (by decide) ?_
        first | (rw [wsI_f (f := fun v => allN (rso a k (a 5 k) v (a 2 0)) (a 4 0)) h51] at ih; exact ih) | (rw [wsI_t (f := fun v => allN (rso a k (a 5 k) v (a 2 0)) (a 4 0)) h51] at ih; exact ih)
  · refine T_iconst (v := -1) dX6_mouths_14 (by decide) ?_
    refine T_iret dX6_mouths_15 rfl ?_
    rw [show aMouths a x = -1 from if_neg (by simp [h11])]; exact rt_i
set_option maxRecDepth 20000 in
theorem c_X6_kinds {S : Nat → Nat → Int32} {L : Nat → Nat → Int64} {nw sp cd : Nat} {d : Nat} (hnw : nw = 19 ∨ nw = 28) {a : Nat → Nat → Nat} (hV : TV S nw a) (hWF : WFA a) {x : Int32} : TT mX6_kinds (d + 3) 0 [some (.ref 0), some (.int (x)), none, none] [] (S, L, (nw, sp, cd)) (rt (some (.int (aKinds a x))) (S, L, (nw, sp, cd))) := by
  obtain ⟨hg, hdn, hso, hbd, hrn, hgu, hdi, hre⟩ := id hV
  obtain ⟨b8, b6, b3, b64, br8⟩ := hWF.b
  refine T_ild1 dX6_kinds_0 ?_
  refine T_ald0 dX6_kinds_1 ?_
  refine T_getR (q := nw) dX6_kinds_2 lf_X6_48 rfl rfl rfl ?_
  refine T_getN dX6_kinds_5 lf_X6_91 (kT hnw) rfl hg ?_
  refine T_invS2i (M' := mX6_isBelow) dX6_kinds_8 ml_X6_64 imX6_isBelow (Nat.le_of_ble_eq_true rfl) rfl (Nat.le_of_ble_eq_true rfl) (c_X6_isBelow (by omega)) ?_
  refine T_ifneB (tgt := 16) dX6_kinds_11 (by decide) (fun h11 => ?_) (fun h11 => ?_)
  · obtain ⟨k, hk, rfl⟩ := blw_t h11
    have ik : ix (nI k) = k := ix_n (by omega)
    have hW := hWF.g (by omega)
    obtain ⟨w3, w8, wd1, wd6, wso, wb, wbs, wbp, wne, wrn, wgu, wdi, wre⟩ := id hW
    refine T_iconst (v := nI 0) dX6_kinds_16 (by decide) ?_
    refine T_ist2 dX6_kinds_17 (by decide) rfl ?_
    refine T_iconst (v := nI 0) dX6_kinds_18 (by decide) ?_
    refine T_ist3 dX6_kinds_19 (by decide) rfl ?_
    have qk := wgu k hk
    refine up_ind (P := fun i => TT mX6_kinds (d + 3) 20 [some (.ref 0), some (.int (nI k)), some (.int (wsI (fun v => allN (rso a k v (a 6 k) (a 2 0)) (a 4 0)) i)), some (.int (nI i))] [] (S, L, (nw, sp, cd)) (rt (some (.int (aKinds a (nI k)))) (S, L, (nw, sp, cd)))) 3 ?_ ?_
    · refine T_ild3 dX6_kinds_20 ?_
      refine T_iconst (v := nI 3) dX6_kinds_21 (by decide) ?_
      refine T_cgeN (tgt := 65) dX6_kinds_22 (by decide) (by omega) (by omega) (fun h22 => ?_) (fun h22 => by exfalso; omega)
      refine T_ild2 dX6_kinds_65 ?_
      refine T_iret dX6_kinds_66 rfl ?_
      rw [show aKinds a (nI k) = wsI (fun v => allN (rso a k v (a 6 k) (a 2 0)) (a 4 0)) 3 from (if_pos h11).trans (by rw [ik])]; exact rt_i
    · intro i hi ih
      refine T_ild3 dX6_kinds_20 ?_
      refine T_iconst (v := nI 3) dX6_kinds_21 (by decide) ?_
      refine T_cgeN (tgt := 65) dX6_kinds_22 (by decide) (by omega) (by omega) (fun h22 => by exfalso; omega) (fun h22 => ?_)
      refine T_ald0 dX6_kinds_25 ?_
      refine T_getR (q := nw) dX6_kinds_26 lf_X6_48 rfl rfl rfl ?_
      refine T_ild1 dX6_kinds_29 ?_
      refine T_ild3 dX6_kinds_30 ?_
      refine T_ald0 dX6_kinds_31 ?_
      refine T_getR (q := nw) dX6_kinds_32 lf_X6_48 rfl rfl rfl ?_
      refine T_getR (q := nw + 2) dX6_kinds_35 lf_X6_97 (kT hnw) rfl (rT2 hnw) ?_
      refine T_ild1 dX6_kinds_38 ?_
      refine T_ialdN dX6_kinds_39 (kT2 hnw) (by rw [lT2 hnw]; omega) (hgu _ (by omega)).2.1 ?_
      refine T_ald0 dX6_kinds_40 ?_
      refine T_getR (q := nw) dX6_kinds_41 lf_X6_48 rfl rfl rfl ?_
      refine T_getN dX6_kinds_44 lf_X6_132 (kT hnw) rfl hso ?_
      refine T_invV4i (M' := mX4_areReadingsSo) dX6_kinds_47 ml_X6_213 imX4_areReadingsSo (kT hnw) (Nat.le_of_ble_eq_true rfl) rfl (Nat.le_of_ble_eq_true rfl) rfl (Nat.le_of_ble_eq_true rfl) (c_X4_areReadingsSo hnw hV hW (by omega) (by omega) (by omega) (by omega)) ?_
      refine T_ifeqB (tgt := 59) dX6_kinds_50 (by decide) (fun h50 => ?_) (fun h50 => ?_)
      · refine T_inc3N dX6_kinds_59 (by decide) rfl ?_
        refine T_goto (tgt := 20) dX6_kinds_62 (by decide) ?_
        first | (rw [wsI_f (f := fun v => allN (rso a k v (a 6 k) (a 2 0)) (a 4 0)) h50] at ih; exact ih) | (rw [wsI_t (f := fun v => allN (rso a k v (a 6 k) (a 2 0)) (a 4 0)) h50] at ih; exact ih)
      · refine T_ild2 dX6_kinds_53 ?_
        refine T_iconst (v := nI 1) dX6_kinds_54 (by decide) ?_
        refine T_ild3 dX6_kinds_55 ?_
        refine T_ishl dX6_kinds_56 ?_
        refine T_ior dX6_kinds_57 ?_
        refine T_ist2 dX6_kinds_58 (by decide) rfl ?_
        refine T_inc3N dX6_kinds_59 (by decide) rfl ?_
        refine T_goto (tgt := 20) dX6_kinds_62 (by decide) ?_
        first | (rw [wsI_f (f := fun v => allN (rso a k v (a 6 k) (a 2 0)) (a 4 0)) h50] at ih; exact ih) | (rw [wsI_t (f := fun v => allN (rso a k v (a 6 k) (a 2 0)) (a 4 0)) h50] at ih; exact ih)
  · refine T_iconst (v := -1) dX6_kinds_14 (by decide) ?_
    refine T_iret dX6_kinds_15 rfl ?_
    rw [show aKinds a x = -1 from if_neg (by simp [h11])]; exact rt_i
set_option maxRecDepth 20000 in
theorem c_X6_soups {S : Nat → Nat → Int32} {L : Nat → Nat → Int64} {nw sp cd : Nat} {d : Nat} (hnw : nw = 19 ∨ nw = 28) {a : Nat → Nat → Nat} (hV : TV S nw a) (hWF : WFA a)  : TT mX6_soups (d + 3) 0 [some (.ref 0), none, none] [] (S, L, (nw, sp, cd)) (rt (some (.int (aSoups a))) (S, L, (nw, sp, cd))) := by
  obtain ⟨hg, hdn, hso, hbd, hrn, hgu, hdi, hre⟩ := id hV
  obtain ⟨b8, b6, b3, b64, br8⟩ := hWF.b
  refine T_ald0 dX6_soups_0 ?_
  refine T_getR (q := nw) dX6_soups_1 lf_X6_48 rfl rfl rfl ?_
  refine T_invV0i (M' := mX4_isLaid) dX6_soups_4 ml_X6_125 imX4_isLaid (kT hnw) (Nat.le_of_ble_eq_true rfl) rfl (Nat.le_of_ble_eq_true rfl) rfl (Nat.le_of_ble_eq_true rfl) (c_X4_isLaid hnw hg b8) ?_
  refine T_ifneB (tgt := 13) dX6_soups_7 (by decide) (fun h7 => ?_) (fun h7 => ?_)
  · have h0 : 0 < a 0 0 := of_decide_eq_true h7
    have hW := hWF.g h0
    obtain ⟨w3, w8, wd1, wd6, wso, wb, wbs, wbp, wne, wrn, wgu, wdi, wre⟩ := id hW
    refine T_iconst (v := nI 0) dX6_soups_13 (by decide) ?_
    refine T_ist1 dX6_soups_14 (by decide) rfl ?_
    refine T_iconst (v := nI 0) dX6_soups_15 (by decide) ?_
    refine T_ist2 dX6_soups_16 (by decide) rfl ?_
    have qk := wgu 0 h0
    refine up_ind (P := fun i => TT mX6_soups (d + 3) 17 [some (.ref 0), some (.int (wsI (fun v => allN (rso a 0 (a 5 0) (a 6 0) v) (a 4 0)) i)), some (.int (nI i))] [] (S, L, (nw, sp, cd)) (rt (some (.int (aSoups a))) (S, L, (nw, sp, cd)))) 4 ?_ ?_
    · refine T_ild2 dX6_soups_17 ?_
      refine T_iconst (v := nI 4) dX6_soups_18 (by decide) ?_
      refine T_cgeN (tgt := 64) dX6_soups_19 (by decide) (by omega) (by omega) (fun h19 => ?_) (fun h19 => by exfalso; omega)
      refine T_ild1 dX6_soups_64 ?_
      refine T_iret dX6_soups_65 rfl ?_
      rw [show aSoups a = wsI (fun v => allN (rso a 0 (a 5 0) (a 6 0) v) (a 4 0)) 4 from if_neg (by omega)]; exact rt_i
    · intro i hi ih
      refine T_ild2 dX6_soups_17 ?_
      refine T_iconst (v := nI 4) dX6_soups_18 (by decide) ?_
      refine T_cgeN (tgt := 64) dX6_soups_19 (by decide) (by omega) (by omega) (fun h19 => by exfalso; omega) (fun h19 => ?_)
      refine T_ald0 dX6_soups_22 ?_
      refine T_getR (q := nw) dX6_soups_23 lf_X6_48 rfl rfl rfl ?_
      refine T_iconst (v := nI 0) dX6_soups_26 (by decide) ?_
      refine T_ald0 dX6_soups_27 ?_
      refine T_getR (q := nw) dX6_soups_28 lf_X6_48 rfl rfl rfl ?_
      refine T_getR (q := nw + 1) dX6_soups_31 lf_X6_94 (kT hnw) rfl (rT1 hnw) ?_
      refine T_iconst (v := nI 0) dX6_soups_34 (by decide) ?_
      refine T_ialdN dX6_soups_35 (kT1 hnw) (by rw [lT1 hnw]; omega) (hgu _ (by omega)).1 ?_
      refine T_ald0 dX6_soups_36 ?_
      refine T_getR (q := nw) dX6_soups_37 lf_X6_48 rfl rfl rfl ?_
      refine T_getR (q := nw + 2) dX6_soups_40 lf_X6_97 (kT hnw) rfl (rT2 hnw) ?_
      refine T_iconst (v := nI 0) dX6_soups_43 (by decide) ?_
      refine T_ialdN dX6_soups_44 (kT2 hnw) (by rw [lT2 hnw]; omega) (hgu _ (by omega)).2.1 ?_
      refine T_ild2 dX6_soups_45 ?_
      refine T_invV4i (M' := mX4_areReadingsSo) dX6_soups_46 ml_X6_213 imX4_areReadingsSo (kT hnw) (Nat.le_of_ble_eq_true rfl) rfl (Nat.le_of_ble_eq_true rfl) rfl (Nat.le_of_ble_eq_true rfl) (c_X4_areReadingsSo hnw hV hW (by omega) (by omega) (by omega) (by omega)) ?_
      refine T_ifeqB (tgt := 58) dX6_soups_49 (by decide) (fun h49 => ?_) (fun h49 => ?_)
      · refine T_inc2N dX6_soups_58 (by decide) rfl ?_
        refine T_goto (tgt := 17) dX6_soups_61 (by decide) ?_
        first | (rw [wsI_f (f := fun v => allN (rso a 0 (a 5 0) (a 6 0) v) (a 4 0)) h49] at ih; exact ih) | (rw [wsI_t (f := fun v => allN (rso a 0 (a 5 0) (a 6 0) v) (a 4 0)) h49] at ih; exact ih)
      · refine T_ild1 dX6_soups_52 ?_
        refine T_iconst (v := nI 1) dX6_soups_53 (by decide) ?_
        refine T_ild2 dX6_soups_54 ?_
        refine T_ishl dX6_soups_55 ?_
        refine T_ior dX6_soups_56 ?_
        refine T_ist1 dX6_soups_57 (by decide) rfl ?_
        refine T_inc2N dX6_soups_58 (by decide) rfl ?_
        refine T_goto (tgt := 17) dX6_soups_61 (by decide) ?_
        first | (rw [wsI_f (f := fun v => allN (rso a 0 (a 5 0) (a 6 0) v) (a 4 0)) h49] at ih; exact ih) | (rw [wsI_t (f := fun v => allN (rso a 0 (a 5 0) (a 6 0) v) (a 4 0)) h49] at ih; exact ih)
  · refine T_bipush (v := -3) dX6_soups_10 (by decide) ?_
    refine T_iret dX6_soups_12 rfl ?_
    rw [show aSoups a = -3 from if_pos (by have := of_decide_eq_false h7; omega)]; exact rt_i
set_option maxRecDepth 20000 in
theorem c_X6_many {S : Nat → Nat → Int32} {L : Nat → Nat → Int64} {nw sp cd : Nat} {d : Nat} (hnw : nw = 19 ∨ nw = 28) {a : Nat → Nat → Nat} (hV : TV S nw a) (hWF : WFA a) {w : Int32} : TT mX6_many (d + 1) 0 [some (.ref 0), some (.int (w))] [] (S, L, (nw, sp, cd)) (rt (some (.int (aMany a w))) (S, L, (nw, sp, cd))) := by
  obtain ⟨hg, hdn, hso, hbd, hrn, hgu, hdi, hre⟩ := id hV
  obtain ⟨b8, b6, b3, b64, br8⟩ := hWF.b
  refine T_ild1 dX6_many_0 ?_
  refine T_sw (a := 0) [40, 48, 56, 64, 75, 86] 94 dX6_many_1 (by decide) (by decide) (by decide) (by decide) (fun j hj e1 => ?_) (fun e1 => ?_)
  · match j, hj, e1 with
    | 0, _, e1 =>
      refine T_ald0 dX6_many_40 ?_
      refine T_getR (q := nw) dX6_many_41 lf_X6_48 rfl rfl rfl ?_
      refine T_getN dX6_many_44 lf_X6_91 (kT hnw) rfl hg ?_
      refine T_iret dX6_many_47 rfl ?_
      rw [show aMany a w = nI (a 0 0) from (if_pos e1).trans (rfl)]; exact rt_i
    | 1, _, e1 =>
      refine T_ald0 dX6_many_48 ?_
      refine T_getR (q := nw) dX6_many_49 lf_X6_48 rfl rfl rfl ?_
      refine T_getN dX6_many_52 lf_X6_106 (kT hnw) rfl hdn ?_
      refine T_iret dX6_many_55 rfl ?_
      rw [show aMany a w = nI (a 1 0) from (if_neg (by rw [e1]; decide)).trans ((if_pos e1).trans (rfl))]; exact rt_i
    | 2, _, e1 =>
      refine T_ald0 dX6_many_56 ?_
      refine T_getR (q := nw) dX6_many_57 lf_X6_48 rfl rfl rfl ?_
      refine T_getN dX6_many_60 lf_X6_132 (kT hnw) rfl hso ?_
      refine T_iret dX6_many_63 rfl ?_
      rw [show aMany a w = nI (a 2 0) from (if_neg (by rw [e1]; decide)).trans ((if_neg (by rw [e1]; decide)).trans ((if_pos e1).trans (rfl)))]; exact rt_i
    | 3, _, e1 =>
      refine T_ald0 dX6_many_64 ?_
      refine T_getR (q := nw) dX6_many_65 lf_X6_48 rfl rfl rfl ?_
      refine T_getN dX6_many_68 lf_X6_115 (kT hnw) rfl hbd ?_
      refine T_invS1i (M' := mX6_saltOf) dX6_many_71 ml_X6_161 imX6_saltOf (Nat.le_of_ble_eq_true rfl) rfl (Nat.le_of_ble_eq_true rfl) (c_X6_saltOf (by omega)) ?_
      refine T_iret dX6_many_74 rfl ?_
      rw [show aMany a w = nI (a 3 0 / 8) from (if_neg (by rw [e1]; decide)).trans ((if_neg (by rw [e1]; decide)).trans ((if_neg (by rw [e1]; decide)).trans ((if_pos e1).trans (rfl))))]; exact rt_i
    | 4, _, e1 =>
      refine T_ald0 dX6_many_75 ?_
      refine T_getR (q := nw) dX6_many_76 lf_X6_48 rfl rfl rfl ?_
      refine T_getN dX6_many_79 lf_X6_115 (kT hnw) rfl hbd ?_
      refine T_invS1i (M' := mX6_pepperOf) dX6_many_82 ml_X6_164 imX6_pepperOf (Nat.le_of_ble_eq_true rfl) rfl (Nat.le_of_ble_eq_true rfl) (c_X6_pepperOf (by omega)) ?_
      refine T_iret dX6_many_85 rfl ?_
      rw [show aMany a w = nI (a 3 0 % 8) from (if_neg (by rw [e1]; decide)).trans ((if_neg (by rw [e1]; decide)).trans ((if_neg (by rw [e1]; decide)).trans ((if_neg (by rw [e1]; decide)).trans ((if_pos e1).trans (rfl)))))]; exact rt_i
    | 5, _, e1 =>
      refine T_ald0 dX6_many_86 ?_
      refine T_getR (q := nw) dX6_many_87 lf_X6_48 rfl rfl rfl ?_
      refine T_getN dX6_many_90 lf_X6_204 (kT hnw) rfl hrn ?_
      refine T_iret dX6_many_93 rfl ?_
      rw [show aMany a w = nI (a 4 0) from (if_neg (by rw [e1]; decide)).trans ((if_neg (by rw [e1]; decide)).trans ((if_neg (by rw [e1]; decide)).trans ((if_neg (by rw [e1]; decide)).trans ((if_neg (by rw [e1]; decide)).trans ((if_pos e1).trans (rfl))))))]; exact rt_i
    | j + 6, hj, _ => exact absurd hj (by simp)
  · refine T_bipush (v := -2) dX6_many_94 (by decide) ?_
    refine T_iret dX6_many_96 rfl ?_
    rw [show aMany a w = -2 from (if_neg (e1 0 (by decide))).trans ((if_neg (e1 1 (by decide))).trans ((if_neg (e1 2 (by decide))).trans ((if_neg (e1 3 (by decide))).trans ((if_neg (e1 4 (by decide))).trans (if_neg (e1 5 (by decide)))))))]; exact rt_i
set_option maxRecDepth 20000 in
theorem c_X6_spilt {S : Nat → Nat → Int32} {L : Nat → Nat → Int64} {nw sp cd : Nat} {d : Nat} (hnw : nw = 19 ∨ nw = 28) {a : Nat → Nat → Nat} (hV : TV S nw a) (hWF : WFA a) {x : Int32} : TT mX6_spilt (d + 3) 0 [some (.ref 0), some (.int (x))] [] (S, L, (nw, sp, cd)) (fun r σ' => ∃ S', σ' = (S', L, (nw, sp, cd)) ∧ r = some (.int (aSpilt a x)) ∧ TV S' nw a ∧ FC S S') := by
  obtain ⟨hg, hdn, hso, hbd, hrn, hgu, hdi, hre⟩ := id hV
  obtain ⟨b8, b6, b3, b64, br8⟩ := hWF.b
  refine T_ald0 dX6_spilt_0 ?_
  refine T_getR (q := nw) dX6_spilt_1 lf_X6_48 rfl rfl rfl ?_
  refine T_invV0i (M' := mX4_isLaid) dX6_spilt_4 ml_X6_125 imX4_isLaid (kT hnw) (Nat.le_of_ble_eq_true rfl) rfl (Nat.le_of_ble_eq_true rfl) rfl (Nat.le_of_ble_eq_true rfl) (c_X4_isLaid hnw hg b8) ?_
  refine T_ifneB (tgt := 13) dX6_spilt_7 (by decide) (fun h7 => ?_) (fun h7 => ?_)
  · have h0 : 0 < a 0 0 := of_decide_eq_true h7
    have hW := hWF.g h0
    refine T_ild1 dX6_spilt_13 ?_
    refine T_iconst (v := nI 1) dX6_spilt_14 (by decide) ?_
    refine T_ald0 dX6_spilt_15 ?_
    refine T_getR (q := nw) dX6_spilt_16 lf_X6_48 rfl rfl rfl ?_
    refine T_getN dX6_spilt_19 lf_X6_91 (kT hnw) rfl hg ?_
    refine T_ishl dX6_spilt_22 ?_
    rw [shl_n _ (by omega)]
    refine T_invS2i (M' := mX6_isBelow) dX6_spilt_23 ml_X6_64 imX6_isBelow (Nat.le_of_ble_eq_true rfl) rfl (Nat.le_of_ble_eq_true rfl) (c_X6_isBelow (by have := pow_le b8; omega)) ?_
    refine T_ifneB (tgt := 32) dX6_spilt_26 (by decide) (fun h26 => ?_) (fun h26 => ?_)
    · refine T_ald0 dX6_spilt_32 ?_
      refine T_getR (q := nw) dX6_spilt_33 lf_X6_48 rfl rfl rfl ?_
      refine T_ild1 dX6_spilt_36 ?_
      refine T_invV1i (M' := mX4_fewestWhoWet) dX6_spilt_37 ml_X6_191 imX4_fewestWhoWet (kT hnw) (Nat.le_of_ble_eq_true rfl) rfl (Nat.le_of_ble_eq_true rfl) rfl (Nat.le_of_ble_eq_true rfl) (c_X4_fewestWhoWet hnw hV hW) ?_
      refine T_iret dX6_spilt_40 rfl ?_
      rw [show aSpilt a x = _ from (if_neg (by omega)).trans (if_pos h26)]; exact ⟨_, rfl, rfl, hV.cong (fun q _ _ h => wf_p h), ⟨fun q hq => wf_p (by omega), by rw [wf_p (by omega)], by rw [wf_p (by omega)]⟩⟩
    · refine T_bipush (v := -2) dX6_spilt_29 (by decide) ?_
      refine T_iret dX6_spilt_31 rfl ?_
      rw [show aSpilt a x = -2 from (if_neg (by omega)).trans (if_neg (by simp [h26]))]; exact ⟨_, rfl, rfl, hV, FC_r⟩
  · refine T_bipush (v := -3) dX6_spilt_10 (by decide) ?_
    refine T_iret dX6_spilt_12 rfl ?_
    rw [show aSpilt a x = -3 from if_pos (by have := of_decide_eq_false h7; omega)]; exact ⟨_, rfl, rfl, hV, FC_r⟩
