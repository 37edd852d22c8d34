/-! put, cell, copy, dinner, table of the class -/
set_option maxRecDepth 20000 in
theorem c_X6_put {S : Nat → Nat → Int32} {L : Nat → Nat → Int64} {nw sp cd : Nat} {d : Nat} {h : HS} (hH : SHC S h) (hBH : BH h) {x y v : Int32} : TT mX6_put (d + 2) 0 [some (.ref 0), some (.int (x)), some (.int (y)), some (.int (v)), none] [] (S, L, (nw, sp, cd)) (fun r σ' => ∃ S', σ' = (S', L, (nw, sp, cd)) ∧ r = some (.int (aPut h x y)) ∧ SHC S' (sPut h x y v) ∧ FS S S' ∧ S' 0 8 = nI (fPut h x y)) := by
  refine T_ald0 dX6_put_0 ?_
  refine T_iconst (v := nI 0) dX6_put_1 (by decide) ?_
  refine T_putI dX6_put_2 lf_X6_56 rfl rfl rfl rfl ?_
  refine T_ild1 dX6_put_5 ?_
  refine T_invS1i (M' := mX6_isSheet) dX6_put_6 ml_X6_60 imX6_isSheet (Nat.le_of_ble_eq_true rfl) rfl (Nat.le_of_ble_eq_true rfl) c_X6_isSheet ?_
  refine T_ifneB (tgt := 14) dX6_put_9 (by decide) (fun h9 => ?_) (fun h9 => ?_)
  · obtain ⟨j, hj, rfl⟩ := blw_t h9
    have ij : ix (nI j) = j := ix_n (by omega)
    have hJ := hH j hj
    have hB := hBH j hj
    refine T_ald0 dX6_put_14 ?_
    refine T_getR (q := 1) dX6_put_15 lf_X6_13 rfl rfl rfl ?_
    refine T_ild1 dX6_put_18 ?_
    refine T_aald dX6_put_19 hj rfl ?_
    refine T_ast4 dX6_put_20 (by decide) rfl ?_
    refine T_ald4 dX6_put_22 ?_
    refine T_getV dX6_put_24 lf_X6_227 (kS hj) rfl ((congrFun (uI_p (by omega)) _).trans hJ.1) ?_
    refine T_ifneB (tgt := 36) dX6_put_27 (by decide) (fun h27 => ?_) (fun h27 => ?_)
    · refine T_ald4 dX6_put_36 ?_
      refine T_ild2 dX6_put_38 ?_
      refine T_iconst (v := nI 1) dX6_put_39 (by decide) ?_
      refine T_invV2i (M' := mX3_has) dX6_put_40 ml_X6_231 imX3_has (kS hj) (Nat.le_of_ble_eq_true rfl) rfl (Nat.le_of_ble_eq_true rfl) rfl (Nat.le_of_ble_eq_true rfl) (c_X3_has hj (by rw [uI_p (by omega)]; exact (hJ.2.1 h27).2.1) (hJ.2.1 h27).2.2) ?_
      refine T_ifneB (tgt := 52) dX6_put_43 (by decide) (fun h43 => ?_) (fun h43 => ?_)
      · rw [hasB_1 (hB h27).2] at h43
        obtain ⟨i, hi, rfl⟩ := blw_t h43
        have ii : ix (nI i) = i := ix_n (by have := (hB h27).2; omega)
        have hi6 := (hB h27).2
        refine T_ald4 dX6_put_52 ?_
        refine T_getR (q := 6 + j) dX6_put_54 lf_X6_76 (kS hj) rfl (rS hj) ?_
        refine T_ild2 dX6_put_57 ?_
        refine T_ald4 dX6_put_58 ?_
        refine T_ild3 dX6_put_60 ?_
        refine T_invV1i (M' := mX3_cut) dX6_put_61 ml_X6_234 imX3_cut (kS hj) (Nat.le_of_ble_eq_true rfl) rfl (Nat.le_of_ble_eq_true rfl) rfl (Nat.le_of_ble_eq_true rfl) (c_X3_cut hj (by rw [uI_p (by omega)]; exact (hJ.2.1 h27).1) (hB h27).1) ?_
        refine T_iast dX6_put_64 (kC hj) (by rw [lC hj]; omega) rfl ?_
        refine T_iconst (v := nI 1) dX6_put_65 (by decide) ?_
        refine T_iret dX6_put_66 rfl ?_
        rw [show aPut h (nI j) (nI i) = nI 1 from (if_pos h9).trans ((if_pos (by rw [ij]; exact h27)).trans (if_pos (by rw [ij]; exact h43))), show sPut h (nI j) (nI i) v = (h.1, h.2.1, h.2.2.1, va_up h.2.2.2 j (va_up (h.2.2.2 j) i (cutI (h.2.1 j) v))) from (if_pos (by rw [ij, h9, h27, h43]; rfl)).trans (by rw [ij, ii]), show fPut h (nI j) (nI i) = 0 from (if_pos h9).trans ((if_pos (by rw [ij]; exact h27)).trans (if_pos (by rw [ij]; exact h43)))]; refine ⟨_, rfl, rfl, fun k hk => ?_, FS_u (FS_8 FS_r) (by omega) (by omega), ?_⟩
        · have q := hH k hk
          rw [uI_p (a := 2 + k) (by omega), uI_p (a := 2 + k) (by omega)]
          refine ⟨q.1, q.2.1, fun z hz => ?_⟩
          by_cases e : k = j
          · subst e
            simp only [va_up, if_true]
            by_cases e2 : z = i
            · subst e2; rw [uI_s, if_pos rfl]
            · rw [uI_k e2, if_neg e2, uI_p (by omega)]; exact q.2.2 z hz
          · simp only [va_up, if_neg e]
            rw [uI_p (by omega), uI_p (by omega)]; exact q.2.2 z hz
        · rw [uI_p (by omega), uI_s]
      · refine T_ald0 dX6_put_46 ?_
        refine T_iconst (v := nI 3) dX6_put_47 (by decide) ?_
        refine T_invV1i (M' := mX6_broken) dX6_put_48 ml_X6_72 imX6_broken rfl (Nat.le_of_ble_eq_true rfl) rfl (Nat.le_of_ble_eq_true rfl) rfl (Nat.le_of_ble_eq_true rfl) c_X6_broken ?_
        refine T_iret dX6_put_51 rfl ?_
        rw [hasB_1 (hB h27).2] at h43
        rw [show aPut h (nI j) y = -10 - nI 3 from (if_pos h9).trans ((if_pos (by rw [ij]; exact h27)).trans (if_neg (by simp [ij, h43]))), show sPut h (nI j) y v = h from if_neg (by simp [ij, h43]), show fPut h (nI j) y = 3 from (if_pos h9).trans ((if_pos (by rw [ij]; exact h27)).trans (if_neg (by simp [ij, h43])))]; exact ⟨_, rfl, rfl, (hH.cong (fun q h1 h2 => by rw [uI_p (by omega), uI_p (by omega)])), FS_8 (FS_8 FS_r), uI_s⟩
    · refine T_ald0 dX6_put_30 ?_
      refine T_iconst (v := nI 1) dX6_put_31 (by decide) ?_
      refine T_invV1i (M' := mX6_broken) dX6_put_32 ml_X6_72 imX6_broken rfl (Nat.le_of_ble_eq_true rfl) rfl (Nat.le_of_ble_eq_true rfl) rfl (Nat.le_of_ble_eq_true rfl) c_X6_broken ?_
      refine T_iret dX6_put_35 rfl ?_
      rw [show aPut h (nI j) y = -10 - nI 1 from (if_pos h9).trans (if_neg (by simp [ij, h27])), show sPut h (nI j) y v = h from if_neg (by simp [ij, h27]), show fPut h (nI j) y = 1 from (if_pos h9).trans (if_neg (by simp [ij, h27]))]; exact ⟨_, rfl, rfl, (hH.cong (fun q h1 h2 => by rw [uI_p (by omega), uI_p (by omega)])), FS_8 (FS_8 FS_r), uI_s⟩
  · refine T_iconst (v := -1) dX6_put_12 (by decide) ?_
    refine T_iret dX6_put_13 rfl ?_
    rw [show aPut h x y = -1 from if_neg (by simp [h9]), show sPut h x y v = h from if_neg (by simp [h9]), show fPut h x y = 0 from if_neg (by simp [h9])]; exact ⟨_, rfl, rfl, hH.cong (fun q h1 h2 => uI_p (by omega)), FS_8 FS_r, uI_s⟩
set_option maxRecDepth 20000 in
theorem c_X6_cell {S : Nat → Nat → Int32} {L : Nat → Nat → Int64} {nw sp cd : Nat} {d : Nat} {h : HS} (hH : SHC S h) (hBH : BH h) {x y l : Int32} : TT mX6_cell (d + 2) 0 [some (.ref 0), some (.int (x)), some (.int (y)), some (.int (l))] [] (S, L, (nw, sp, cd)) (fun r σ' => ∃ S', σ' = (S', L, (nw, sp, cd)) ∧ r = some (.long (aCell h x y l)) ∧ SHC S' h ∧ FS S S' ∧ S' 0 8 = nI (fCell h x y l)) := by
  refine T_ald0 dX6_cell_0 ?_
  refine T_iconst (v := nI 0) dX6_cell_1 (by decide) ?_
  refine T_putI dX6_cell_2 lf_X6_56 rfl rfl rfl rfl ?_
  refine T_ild1 dX6_cell_5 ?_
  refine T_invS1i (M' := mX6_isSheet) dX6_cell_6 ml_X6_60 imX6_isSheet (Nat.le_of_ble_eq_true rfl) rfl (Nat.le_of_ble_eq_true rfl) c_X6_isSheet ?_
  refine T_ifeqB (tgt := 20) dX6_cell_9 (by decide) (fun h9 => ?_) (fun h9 => ?_)
  · refine T_ldc2 ct_X6_194 dX6_cell_20 ?_
    refine T_lret dX6_cell_23 rfl ?_
    rw [show aCell h x y l = LOSTV from if_neg (by first | (simp [h9]; done) | simp [h9, h17]), show fCell h x y l = 0 from if_neg (by first | (simp [h9]; done) | simp [h9, h17])]; exact ⟨_, rfl, rfl, hH.cong (fun q h1 h2 => uI_p (by omega)), FS_8 FS_r, uI_s⟩
  · refine T_ild3 dX6_cell_12 ?_
    refine T_iconst (v := nI 3) dX6_cell_13 (by decide) ?_
    refine T_invS2i (M' := mX6_isBelow) dX6_cell_14 ml_X6_64 imX6_isBelow (Nat.le_of_ble_eq_true rfl) rfl (Nat.le_of_ble_eq_true rfl) (c_X6_isBelow (by omega)) ?_
    refine T_ifneB (tgt := 24) dX6_cell_17 (by decide) (fun h17 => ?_) (fun h17 => ?_)
    · obtain ⟨j, hj, rfl⟩ := blw_t h9
      have ij : ix (nI j) = j := ix_n (by omega)
      have hJ := hH j hj
      have hB := hBH j hj
      have hfl := fau_le (th := h.1 j) (la := h.2.1 j) (n := h.2.2.1 j) (l := l) (x := y) (y := nI 1)
      refine T_ald0 dX6_cell_24 ?_
      refine T_ald0 dX6_cell_25 ?_
      refine T_getR (q := 1) dX6_cell_26 lf_X6_13 rfl rfl rfl ?_
      refine T_ild1 dX6_cell_29 ?_
      refine T_aald dX6_cell_30 hj rfl ?_
      refine T_ild3 dX6_cell_31 ?_
      refine T_ild2 dX6_cell_32 ?_
      refine T_iconst (v := nI 1) dX6_cell_33 (by decide) ?_
      refine T_invV3i (M' := mX3_faultOfCells) dX6_cell_34 ml_X6_68 imX3_faultOfCells (kS hj) (Nat.le_of_ble_eq_true rfl) rfl (Nat.le_of_ble_eq_true rfl) rfl (Nat.le_of_ble_eq_true rfl) (c_X3_faultOfCells hj (th := h.1 j) (la := h.2.1 j) (n := h.2.2.1 j) (by rw [uI_p (by omega)]; exact hJ.1) (fun q => by rw [uI_p (by omega)]; exact ⟨(hJ.2.1 q).1, (hJ.2.1 q).2.1, (hJ.2.1 q).2.2⟩)) ?_
      refine T_putI dX6_cell_37 lf_X6_56 rfl rfl rfl rfl ?_
      refine T_ald0 dX6_cell_40 ?_
      refine T_getN dX6_cell_41 lf_X6_56 rfl rfl uI_s ?_
      refine T_ifneN (tgt := 62) dX6_cell_44 (by decide) (by omega) (fun h44 => ?_) (fun h44 => ?_)
      · refine T_ldc2 ct_X6_194 dX6_cell_62 ?_
        refine T_lret dX6_cell_65 rfl ?_
        first
          | (rw [show aCell h (nI j) (nI i) l = (h.2.2.2 j i).toInt64 from (if_pos (by rw [h9, h17]; rfl)).trans ((if_pos (by unfold fC; rw [ij]; exact h44)).trans (by rw [ij, ii])), show fCell h (nI j) (nI i) l = fau (h.1 j) (h.2.1 j) (h.2.2.1 j) l (nI i) (nI 1) from (if_pos (by rw [h9, h17]; rfl)).trans (by unfold fC; rw [ij])]; exact ⟨_, rfl, rfl, (hH.cong (fun q h1 h2 => by rw [uI_p (by omega), uI_p (by omega)])), FS_8 (FS_8 FS_r), uI_s⟩)
          | (rw [show aCell h (nI j) y l = LOSTV from (if_pos (by rw [h9, h17]; rfl)).trans (if_neg (by unfold fC; rw [ij]; exact h44)), show fCell h (nI j) y l = fau (h.1 j) (h.2.1 j) (h.2.2.1 j) l y (nI 1) from (if_pos (by rw [h9, h17]; rfl)).trans (by unfold fC; rw [ij])]; exact ⟨_, rfl, rfl, (hH.cong (fun q h1 h2 => by rw [uI_p (by omega), uI_p (by omega)])), FS_8 (FS_8 FS_r), uI_s⟩)
      · obtain ⟨q1, q2, -, q4⟩ := fau_0 h44
        rw [hasB_1 (hB q1).2] at q4
        obtain ⟨i, hi, rfl⟩ := blw_t q4
        have ii : ix (nI i) = i := ix_n (by have := (hB q1).2; omega)
        have hi6 := (hB q1).2
        refine T_ald0 dX6_cell_47 ?_
        refine T_getR (q := 1) dX6_cell_48 lf_X6_13 rfl rfl rfl ?_
        refine T_ild1 dX6_cell_51 ?_
        refine T_aald dX6_cell_52 hj rfl ?_
        refine T_getR (q := 6 + j) dX6_cell_53 lf_X6_76 (kS hj) rfl (rS hj) ?_
        refine T_ild2 dX6_cell_56 ?_
        refine T_ialdV dX6_cell_57 (kC hj) (by rw [lC hj]; omega) ((congrFun (uI_p (by omega)) _).trans ((congrFun (uI_p (by omega)) _).trans (hJ.2.2 i (by omega)))) ?_
        refine T_i2l dX6_cell_58 ?_
        refine T_goto (tgt := 65) dX6_cell_59 (by decide) ?_
        refine T_lret dX6_cell_65 rfl ?_
        first
          | (rw [show aCell h (nI j) (nI i) l = (h.2.2.2 j i).toInt64 from (if_pos (by rw [h9, h17]; rfl)).trans ((if_pos (by unfold fC; rw [ij]; exact h44)).trans (by rw [ij, ii])), show fCell h (nI j) (nI i) l = fau (h.1 j) (h.2.1 j) (h.2.2.1 j) l (nI i) (nI 1) from (if_pos (by rw [h9, h17]; rfl)).trans (by unfold fC; rw [ij])]; exact ⟨_, rfl, rfl, (hH.cong (fun q h1 h2 => by rw [uI_p (by omega), uI_p (by omega)])), FS_8 (FS_8 FS_r), uI_s⟩)
          | (rw [show aCell h (nI j) y l = LOSTV from (if_pos (by rw [h9, h17]; rfl)).trans (if_neg (by unfold fC; rw [ij]; exact h44)), show fCell h (nI j) y l = fau (h.1 j) (h.2.1 j) (h.2.2.1 j) l y (nI 1) from (if_pos (by rw [h9, h17]; rfl)).trans (by unfold fC; rw [ij])]; exact ⟨_, rfl, rfl, (hH.cong (fun q h1 h2 => by rw [uI_p (by omega), uI_p (by omega)])), FS_8 (FS_8 FS_r), uI_s⟩)
    · refine T_ldc2 ct_X6_194 dX6_cell_20 ?_
      refine T_lret dX6_cell_23 rfl ?_
      rw [show aCell h x y l = LOSTV from if_neg (by first | (simp [h9]; done) | simp [h9, h17]), show fCell h x y l = 0 from if_neg (by first | (simp [h9]; done) | simp [h9, h17])]; exact ⟨_, rfl, rfl, hH.cong (fun q h1 h2 => uI_p (by omega)), FS_8 FS_r, uI_s⟩
set_option maxRecDepth 20000 in
theorem c_X6_copy {S : Nat → Nat → Int32} {L : Nat → Nat → Int64} {nw sp cd : Nat} {d : Nat} {h : HS} (hH : SHC S h) (hBH : BH h) {x y u z w : Int32} : TT mX6_copy (d + 2) 0 [some (.ref 0), some (.int (x)), some (.int (y)), some (.int (u)), some (.int (z)), some (.int (w)), none, none] [] (S, L, (nw, sp, cd)) (fun r σ' => ∃ S', σ' = (S', L, (nw, sp, cd)) ∧ r = some (.int (aCopy h x y u z w)) ∧ SHC S' (sCopy h x y u z w) ∧ FS S S' ∧ S' 0 8 = nI (fCopy h x y u z w)) := by
  refine T_ald0 dX6_copy_0 ?_
  refine T_iconst (v := nI 0) dX6_copy_1 (by decide) ?_
  refine T_putI dX6_copy_2 lf_X6_56 rfl rfl rfl rfl ?_
  refine T_ild1 dX6_copy_5 ?_
  refine T_invS1i (M' := mX6_isSheet) dX6_copy_6 ml_X6_60 imX6_isSheet (Nat.le_of_ble_eq_true rfl) rfl (Nat.le_of_ble_eq_true rfl) c_X6_isSheet ?_
  refine T_ifeqB (tgt := 19) dX6_copy_9 (by decide) (fun h9 => ?_) (fun h9 => ?_)
  · refine T_iconst (v := -1) dX6_copy_19 (by decide) ?_
    refine T_iret dX6_copy_20 rfl ?_
    rw [show aCopy h x y u z w = -1 from if_neg (by first | (simp [h9]; done) | simp [h9, h16]), show sCopy h x y u z w = h from if_neg (by first | (simp [h9]; done) | simp [h9, h16]), show fCopy h x y u z w = 0 from if_neg (by first | (simp [h9]; done) | simp [h9, h16])]; exact ⟨_, rfl, rfl, hH.cong (fun q h1 h2 => uI_p (by omega)), FS_8 FS_r, uI_s⟩
  · refine T_ild3 dX6_copy_12 ?_
    refine T_invS1i (M' := mX6_isSheet) dX6_copy_13 ml_X6_60 imX6_isSheet (Nat.le_of_ble_eq_true rfl) rfl (Nat.le_of_ble_eq_true rfl) c_X6_isSheet ?_
    refine T_ifneB (tgt := 21) dX6_copy_16 (by decide) (fun h16 => ?_) (fun h16 => ?_)
    · obtain ⟨j, hj, rfl⟩ := blw_t h9
      have ij : ix (nI j) = j := ix_n (by omega)
      have hJ := hH j hj
      have hB := hBH j hj
      obtain ⟨o, ho, rfl⟩ := blw_t h16
      have io : ix (nI o) = o := ix_n (by omega)
      have hO := hH o ho
      have hB2 := hBH o ho
      refine T_ald0 dX6_copy_21 ?_
      refine T_getR (q := 1) dX6_copy_22 lf_X6_13 rfl rfl rfl ?_
      refine T_ild1 dX6_copy_25 ?_
      refine T_aald dX6_copy_26 hj rfl ?_
      refine T_ast6 dX6_copy_27 (by decide) rfl ?_
      refine T_ald0 dX6_copy_29 ?_
      refine T_getR (q := 1) dX6_copy_30 lf_X6_13 rfl rfl rfl ?_
      refine T_ild3 dX6_copy_33 ?_
      refine T_aald dX6_copy_34 ho rfl ?_
      refine T_ast7 dX6_copy_35 (by decide) rfl ?_
      refine T_ald6 dX6_copy_37 ?_
      refine T_getV dX6_copy_39 lf_X6_227 (kS hj) rfl ((congrFun (uI_p (by omega)) _).trans hJ.1) ?_
      refine T_ifeqB (tgt := 53) dX6_copy_42 (by decide) (fun h42 => ?_) (fun h42 => ?_)
      · refine T_ald0 dX6_copy_53 ?_
        refine T_iconst (v := nI 1) dX6_copy_54 (by decide) ?_
        refine T_invV1i (M' := mX6_broken) dX6_copy_55 ml_X6_72 imX6_broken rfl (Nat.le_of_ble_eq_true rfl) rfl (Nat.le_of_ble_eq_true rfl) rfl (Nat.le_of_ble_eq_true rfl) c_X6_broken ?_
        refine T_iret dX6_copy_58 rfl ?_
        rw [show aCopy h (nI j) y (nI o) z w = -10 - nI 1 from (if_pos (by rw [h9, h16]; rfl)).trans (if_neg (by rw [ij, io]; first | (simp [h42]; done) | simp [h42, h50])), show sCopy h (nI j) y (nI o) z w = h from if_neg (by rw [ij, io]; first | (simp [h42]; done) | simp [h42, h50]), show fCopy h (nI j) y (nI o) z w = 1 from (if_pos (by rw [h9, h16]; rfl)).trans (if_neg (by rw [ij, io]; first | (simp [h42]; done) | simp [h42, h50]))]; exact ⟨_, rfl, rfl, (hH.cong (fun q h1 h2 => by rw [uI_p (by omega), uI_p (by omega)])), FS_8 (FS_8 FS_r), uI_s⟩
      · have hb1 := hB h42
        refine T_ald7 dX6_copy_45 ?_
        refine T_getV dX6_copy_47 lf_X6_227 (kS ho) rfl ((congrFun (uI_p (by omega)) _).trans hO.1) ?_
        refine T_ifneB (tgt := 59) dX6_copy_50 (by decide) (fun h50 => ?_) (fun h50 => ?_)
        · have hb2 := hB2 h50
          refine T_ald6 dX6_copy_59 ?_
          refine T_getN dX6_copy_61 lf_X6_237 (kS hj) rfl (by rw [uI_p (by omega)]; exact (hJ.2.1 h42).1) ?_
          refine T_ald7 dX6_copy_64 ?_
          refine T_getN dX6_copy_66 lf_X6_237 (kS ho) rfl (by rw [uI_p (by omega)]; exact (hO.2.1 h50).1) ?_
          refine T_ceqN (tgt := 78) dX6_copy_69 (by decide) (by omega) (by omega) (fun h69 => ?_) (fun h69 => ?_)
          · refine T_ald6 dX6_copy_78 ?_
            refine T_ild2 dX6_copy_80 ?_
            refine T_ild5 dX6_copy_81 ?_
            refine T_invV2i (M' := mX3_has) dX6_copy_83 ml_X6_231 imX3_has (kS hj) (Nat.le_of_ble_eq_true rfl) rfl (Nat.le_of_ble_eq_true rfl) rfl (Nat.le_of_ble_eq_true rfl) (c_X3_has hj (by rw [uI_p (by omega)]; exact (hJ.2.1 h42).2.1) (hJ.2.1 h42).2.2) ?_
            refine T_ifeqB (tgt := 101) dX6_copy_86 (by decide) (fun h86 => ?_) (fun h86 => ?_)
            · refine T_ald0 dX6_copy_101 ?_
              refine T_iconst (v := nI 3) dX6_copy_102 (by decide) ?_
              refine T_invV1i (M' := mX6_broken) dX6_copy_103 ml_X6_72 imX6_broken rfl (Nat.le_of_ble_eq_true rfl) rfl (Nat.le_of_ble_eq_true rfl) rfl (Nat.le_of_ble_eq_true rfl) c_X6_broken ?_
              refine T_iret dX6_copy_106 rfl ?_
              rw [show aCopy h (nI j) y (nI o) z w = -10 - nI 3 from (if_pos (by rw [h9, h16]; rfl)).trans ((if_pos (by rw [ij, io, h42, h50]; rfl)).trans ((if_pos (by rw [ij, io]; exact h69)).trans (if_neg (by rw [ij, io]; first | (simp [h86]; done) | simp [h86, h98])))), show sCopy h (nI j) y (nI o) z w = h from if_neg (by rw [ij, io]; first | (simp [h86]; done) | simp [h86, h98]), show fCopy h (nI j) y (nI o) z w = 3 from (if_pos (by rw [h9, h16]; rfl)).trans ((if_pos (by rw [ij, io, h42, h50]; rfl)).trans ((if_pos (by rw [ij, io]; exact h69)).trans (if_neg (by rw [ij, io]; first | (simp [h86]; done) | simp [h86, h98]))))]; exact ⟨_, rfl, rfl, (hH.cong (fun q h1 h2 => by rw [uI_p (by omega), uI_p (by omega)])), FS_8 (FS_8 FS_r), uI_s⟩
            · refine T_ald7 dX6_copy_89 ?_
              refine T_ild4 dX6_copy_91 ?_
              refine T_ild5 dX6_copy_93 ?_
              refine T_invV2i (M' := mX3_has) dX6_copy_95 ml_X6_231 imX3_has (kS ho) (Nat.le_of_ble_eq_true rfl) rfl (Nat.le_of_ble_eq_true rfl) rfl (Nat.le_of_ble_eq_true rfl) (c_X3_has ho (by rw [uI_p (by omega)]; exact (hO.2.1 h50).2.1) (hO.2.1 h50).2.2) ?_
              refine T_ifneB (tgt := 107) dX6_copy_98 (by decide) (fun h98 => ?_) (fun h98 => ?_)
              · obtain ⟨p1, n1, rfl, rfl, hp1⟩ := hasB_t h86
                obtain ⟨p2, n2, rfl, en, hp2⟩ := hasB_t h98
                have en : n1 = n2 := nI_inj (by omega) (by omega) en
                subst en
                have lj := lC hj
                have lo := lC ho
                refine T_ald6 dX6_copy_107 ?_
                refine T_getR (q := 6 + j) dX6_copy_109 lf_X6_76 (kS hj) rfl (rS hj) ?_
                refine T_ild2 dX6_copy_112 ?_
                refine T_ald7 dX6_copy_113 ?_
                refine T_getR (q := 6 + o) dX6_copy_115 lf_X6_76 (kS ho) rfl (rS ho) ?_
                refine T_ild4 dX6_copy_118 ?_
                refine T_ild5 dX6_copy_120 ?_
                refine T_copyI dX6_copy_122 ml_X6_240 (kC hj) (kC ho) rfl rfl rfl (by omega) (by omega) (Nat.le_of_ble_eq_true rfl) ?_
                refine T_ild5 dX6_copy_125 ?_
                refine T_iret dX6_copy_127 rfl ?_
                have i1 : ix (nI p1) = p1 := ix_n (by omega)
                have i2 : ix (nI p2) = p2 := ix_n (by omega)
                have i3 : ix (nI n1) = n1 := ix_n (by omega)
                rw [show aCopy h (nI j) (nI p1) (nI o) (nI p2) (nI n1) = nI n1 from (if_pos (by rw [h9, h16]; rfl)).trans ((if_pos (by rw [ij, io, h42, h50]; rfl)).trans ((if_pos (by rw [ij, io]; exact h69)).trans (if_pos (by rw [ij, io, h86, h98]; rfl)))), show sCopy h (nI j) (nI p1) (nI o) (nI p2) (nI n1) = (h.1, h.2.1, h.2.2.1, va_up h.2.2.2 o (va_cpy (h.2.2.2 j) (h.2.2.2 o) p1 p2 n1)) from (if_pos (by rw [ij, io, h9, h16, h42, h50, decide_eq_true h69, h86, h98]; rfl)).trans (by rw [ij, io, i1, i2, i3]), show fCopy h (nI j) (nI p1) (nI o) (nI p2) (nI n1) = 0 from (if_pos (by rw [h9, h16]; rfl)).trans ((if_pos (by rw [ij, io, h42, h50]; rfl)).trans ((if_pos (by rw [ij, io]; exact h69)).trans (if_pos (by rw [ij, io, h86, h98]; rfl))))]
                refine ⟨_, rfl, rfl, fun k hk => ?_, ⟨fun q q1 q2 => ?_, fun k hk => ?_⟩, ?_⟩
                · have q := hH k hk
                  have e0 : ∀ q', q' ≠ 6 + o → uR (uI S 0 8 (nI 0)) (6 + o) (va_cpy (uI S 0 8 (nI 0) (6 + j)) (uI S 0 8 (nI 0) (6 + o)) p1 p2 n1) q' = uI S 0 8 (nI 0) q' := fun q' hq' => if_neg hq'
                  rw [e0 (2 + k) (by omega), uI_p (by omega)]
                  refine ⟨q.1, q.2.1, fun z hz => ?_⟩
                  by_cases e : k = o
                  · subst e
                    simp only [va_up, if_true]
                    show (if 6 + k = 6 + k then va_cpy (uI S 0 8 (nI 0) (6 + j)) (uI S 0 8 (nI 0) (6 + k)) p1 p2 n1 else _) z = _
                    rw [if_pos rfl, uI_p (by omega), uI_p (by omega)]
                    unfold va_cpy
                    by_cases c : p2 ≤ z ∧ z < p2 + n1
                    · rw [if_pos c, if_pos c]; exact hJ.2.2 _ (by omega)
                    · rw [if_neg c, if_neg c]; exact q.2.2 z hz
                  · simp only [va_up, if_neg e]
                    rw [e0 (6 + k) (by omega), uI_p (by omega)]; exact q.2.2 z hz
                · show (if q = 6 + o then _ else uI S 0 8 (nI 0) q) = _
                  rw [if_neg (by omega), uI_p q1]
                · show (if 0 = 6 + o then _ else uI S 0 8 (nI 0) 0) k = _
                  rw [if_neg (by omega), uI_k hk]
                · show (if 0 = 6 + o then _ else uI S 0 8 (nI 0) 0) 8 = _
                  rw [if_neg (by omega), uI_s]
              · refine T_ald0 dX6_copy_101 ?_
                refine T_iconst (v := nI 3) dX6_copy_102 (by decide) ?_
                refine T_invV1i (M' := mX6_broken) dX6_copy_103 ml_X6_72 imX6_broken rfl (Nat.le_of_ble_eq_true rfl) rfl (Nat.le_of_ble_eq_true rfl) rfl (Nat.le_of_ble_eq_true rfl) c_X6_broken ?_
                refine T_iret dX6_copy_106 rfl ?_
                rw [show aCopy h (nI j) y (nI o) z w = -10 - nI 3 from (if_pos (by rw [h9, h16]; rfl)).trans ((if_pos (by rw [ij, io, h42, h50]; rfl)).trans ((if_pos (by rw [ij, io]; exact h69)).trans (if_neg (by rw [ij, io]; first | (simp [h86]; done) | simp [h86, h98])))), show sCopy h (nI j) y (nI o) z w = h from if_neg (by rw [ij, io]; first | (simp [h86]; done) | simp [h86, h98]), show fCopy h (nI j) y (nI o) z w = 3 from (if_pos (by rw [h9, h16]; rfl)).trans ((if_pos (by rw [ij, io, h42, h50]; rfl)).trans ((if_pos (by rw [ij, io]; exact h69)).trans (if_neg (by rw [ij, io]; first | (simp [h86]; done) | simp [h86, h98]))))]; exact ⟨_, rfl, rfl, (hH.cong (fun q h1 h2 => by rw [uI_p (by omega), uI_p (by omega)])), FS_8 (FS_8 FS_r), uI_s⟩
          · refine T_ald0 dX6_copy_72 ?_
            refine T_iconst (v := nI 2) dX6_copy_73 (by decide) ?_
            refine T_invV1i (M' := mX6_broken) dX6_copy_74 ml_X6_72 imX6_broken rfl (Nat.le_of_ble_eq_true rfl) rfl (Nat.le_of_ble_eq_true rfl) rfl (Nat.le_of_ble_eq_true rfl) c_X6_broken ?_
            refine T_iret dX6_copy_77 rfl ?_
            rw [show aCopy h (nI j) y (nI o) z w = -10 - nI 2 from (if_pos (by rw [h9, h16]; rfl)).trans ((if_pos (by rw [ij, io, h42, h50]; rfl)).trans (if_neg (by rw [ij, io]; exact h69))), show sCopy h (nI j) y (nI o) z w = h from if_neg (by rw [ij, io]; simp [h69]), show fCopy h (nI j) y (nI o) z w = 2 from (if_pos (by rw [h9, h16]; rfl)).trans ((if_pos (by rw [ij, io, h42, h50]; rfl)).trans (if_neg (by rw [ij, io]; exact h69)))]; exact ⟨_, rfl, rfl, (hH.cong (fun q h1 h2 => by rw [uI_p (by omega), uI_p (by omega)])), FS_8 (FS_8 FS_r), uI_s⟩
        · refine T_ald0 dX6_copy_53 ?_
          refine T_iconst (v := nI 1) dX6_copy_54 (by decide) ?_
          refine T_invV1i (M' := mX6_broken) dX6_copy_55 ml_X6_72 imX6_broken rfl (Nat.le_of_ble_eq_true rfl) rfl (Nat.le_of_ble_eq_true rfl) rfl (Nat.le_of_ble_eq_true rfl) c_X6_broken ?_
          refine T_iret dX6_copy_58 rfl ?_
          rw [show aCopy h (nI j) y (nI o) z w = -10 - nI 1 from (if_pos (by rw [h9, h16]; rfl)).trans (if_neg (by rw [ij, io]; first | (simp [h42]; done) | simp [h42, h50])), show sCopy h (nI j) y (nI o) z w = h from if_neg (by rw [ij, io]; first | (simp [h42]; done) | simp [h42, h50]), show fCopy h (nI j) y (nI o) z w = 1 from (if_pos (by rw [h9, h16]; rfl)).trans (if_neg (by rw [ij, io]; first | (simp [h42]; done) | simp [h42, h50]))]; exact ⟨_, rfl, rfl, (hH.cong (fun q h1 h2 => by rw [uI_p (by omega), uI_p (by omega)])), FS_8 (FS_8 FS_r), uI_s⟩
    · refine T_iconst (v := -1) dX6_copy_19 (by decide) ?_
      refine T_iret dX6_copy_20 rfl ?_
      rw [show aCopy h x y u z w = -1 from if_neg (by first | (simp [h9]; done) | simp [h9, h16]), show sCopy h x y u z w = h from if_neg (by first | (simp [h9]; done) | simp [h9, h16]), show fCopy h x y u z w = 0 from if_neg (by first | (simp [h9]; done) | simp [h9, h16])]; exact ⟨_, rfl, rfl, hH.cong (fun q h1 h2 => uI_p (by omega)), FS_8 FS_r, uI_s⟩
