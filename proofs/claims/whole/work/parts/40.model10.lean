/-! the reference: put, cell, copy -/
theorem wth_m1 {x : Int32} {n : Nat} (hn : n ≤ 60) : wth x (nI 0) (nI n - nI 1) = blw x n := by
  by_cases h : n = 0
  · subst h
    rw [show blw x 0 = false from decide_eq_false (fun ⟨j, h1, _⟩ => absurd h1 (Nat.not_lt_zero j))]
    refine decide_eq_false (fun q => ?_)
    have q1 := Int32.le_iff_toInt_le.mp q.1
    have q2 := Int32.le_iff_toInt_le.mp q.2
    have e0 : (nI 0).toInt = 0 := rfl
    have e1 : (nI 0 - nI 1).toInt = -1 := by decide
    omega
  · rw [pk_sub (by omega)]; exact wth_0 (by omega) (by omega)
set_option maxRecDepth 20000 in
theorem c_within_m1 {S : Nat → Nat → Int32} {L : Nat → Nat → Int64} {R : Nat × Nat × Nat} {d : Nat} {x : Int32} {n : Nat} (hn : n ≤ 60) : TT mX7_within (d + 0) 0 [some (.int x), some (.int (nI 0)), some (.int (nI n - nI 1))] [] (S, L, R) (rt (some (.int (bI (blw x n)))) (S, L, R)) := by
  have q := c_X7_within (S := S) (L := L) (R := R) (d := d) (x := x) (l := nI 0) (h := nI n - nI 1)
  rw [wth_m1 hn] at q; exact q
/-- cells copied: those of the stretch from A to B are done -/
def cp (S : Nat → Nat → Int32) (D s A B : Nat) : Nat → Nat → Int32 := fun r k => if r = 40 ∧ D + A ≤ k ∧ k < D + B then S 40 (s + (k - D)) else S r k
theorem cp_0 {S : Nat → Nat → Int32} {D s A : Nat} : cp S D s A A = S := by funext r k; exact if_neg (by omega)
theorem cp_p {S : Nat → Nat → Int32} {D s A B r : Nat} (h : r ≠ 40) : cp S D s A B r = S r := by funext k; exact if_neg (fun q => h q.1)
theorem cp_o {S : Nat → Nat → Int32} {D s A B k : Nat} (h : ¬ (D + A ≤ k ∧ k < D + B)) : cp S D s A B 40 k = S 40 k := if_neg (fun q => h q.2)
theorem cp_up {S : Nat → Nat → Int32} {D s A B : Nat} {x : Int32} (hAB : A ≤ B) (h : S 40 (s + B) = x) : uI (cp S D s A B) 40 (D + B) x = cp S D s A (B + 1) := by
  funext r k
  by_cases h1 : r = 40
  · subst h1
    by_cases h2 : k = D + B
    · subst h2
      rw [uI_s, ← h]
      refine ((if_pos ⟨rfl, by omega, by omega⟩).trans ?_).symm
      rw [show D + B - D = B by omega]
    · rw [uI_k h2]
      by_cases h3 : D + A ≤ k ∧ k < D + B
      · exact (if_pos ⟨rfl, h3⟩).trans (if_pos ⟨rfl, h3.1, by omega⟩).symm
      · exact (if_neg (fun q => h3 q.2)).trans (if_neg (fun q => h3 ⟨q.2.1, by omega⟩)).symm
  · rw [uI_p h1, cp_p h1, cp_p h1]
theorem cp_dn {S : Nat → Nat → Int32} {D s A B : Nat} {x : Int32} (hAB : A < B) (h : S 40 (s + A) = x) : uI (cp S D s (A + 1) B) 40 (D + A) x = cp S D s A B := by
  funext r k
  by_cases h1 : r = 40
  · subst h1
    by_cases h2 : k = D + A
    · subst h2
      rw [uI_s, ← h]
      refine ((if_pos ⟨rfl, by omega, by omega⟩).trans ?_).symm
      rw [show D + A - D = A by omega]
    · rw [uI_k h2]
      by_cases h3 : D + (A + 1) ≤ k ∧ k < D + B
      · exact (if_pos ⟨rfl, h3⟩).trans (if_pos ⟨rfl, by omega, h3.2⟩).symm
      · exact (if_neg (fun q => h3 q.2)).trans (if_neg (fun q => h3 ⟨by omega, q.2.2⟩)).symm
  · rw [uI_p h1, cp_p h1, cp_p h1]
set_option maxRecDepth 20000 in
theorem c_X7_put {S : Nat → Nat → Int32} {L : Nat → Nat → Int64} {R : Nat × Nat × Nat} {d : Nat} {h : HS} (hH : SHM S h) (hBH : BH h) {x y v : Int32} : TT mX7_put (d + 2) 0 [some (.ref 37), some (.int (x)), some (.int (y)), some (.int (v))] [] (S, L, R) (fun r σ' => ∃ S', σ' = (S', L, R) ∧ r = some (.int (aPut h x y)) ∧ SHM S' (sPut h x y v) ∧ FN S S' ∧ S' 37 0 = nI (fPut h x y)) := by
  refine T_ald0 dX7_put_0 ?_
  refine T_iconst (v := nI 0) dX7_put_1 (by decide) ?_
  refine T_putI dX7_put_2 lf_X7_68 rfl rfl rfl rfl ?_
  refine T_ild1 dX7_put_5 ?_
  refine T_invS1i (M' := mX7_isSheet) dX7_put_6 ml_X7_87 imX7_isSheet (Nat.le_of_ble_eq_true rfl) rfl (Nat.le_of_ble_eq_true rfl) c_X7_isSheet ?_
  refine T_ifneB (tgt := 14) dX7_put_9 (by decide) (fun h9 => ?_) (fun h9 => ?_)
  · obtain ⟨j, hj, rfl⟩ := blw_t h9
    have ij : ix (nI j) = j := ix_n (by omega)
    have hJ := hH j hj
    have hB := hBH j hj
    cases hth : h.1 j with
    | false =>
      rw [hth] at hJ
      have hs : uI S 37 0 (nI 0) 38 j = -9 := (congrFun (uI_p (by decide)) _).trans hJ.1
      refine T_ald0 dX7_put_14 ?_
      refine T_getR (q := 38) dX7_put_15 lf_X7_9 rfl rfl rfl ?_
      refine T_ild1 dX7_put_18 ?_
      refine T_ialdV dX7_put_19 rfl (by show _ < 4; omega) hs ?_
      refine T_bipush (v := -9) dX7_put_20 (by decide) ?_
      refine T_cne (tgt := 31) dX7_put_22 (by decide) (fun h22 => by exact absurd rfl h22) (fun h22 => ?_)
      refine T_ald0 dX7_put_25 ?_
      refine T_iconst (v := nI 1) dX7_put_26 (by decide) ?_
      refine T_invV1i (M' := mX7_fails) dX7_put_27 ml_X7_98 imX7_fails rfl (Nat.le_of_ble_eq_true rfl) rfl (Nat.le_of_ble_eq_true rfl) rfl (Nat.le_of_ble_eq_true rfl) c_X7_fails ?_
      refine T_iret dX7_put_30 rfl ?_
      rw [show aPut h (nI j) y = -10 - nI 1 from (if_pos h9).trans (if_neg (by simp [ij, hth])), show sPut h (nI j) y v = h from if_neg (by simp [ij, hth]), show fPut h (nI j) y = 1 from (if_pos h9).trans (if_neg (by simp [ij, hth]))]; exact ⟨_, rfl, rfl, (hH.cong (fun q h1 h2 => by rw [uI_p (by omega), uI_p (by omega)])), FN_0 (FN_0 FN_r), uI_s⟩
    | true =>
      rw [hth] at hJ
      have hs : uI S 37 0 (nI 0) 38 j = nI (h.2.1 j) := (congrFun (uI_p (by decide)) _).trans hJ.1
      have hln : uI S 37 0 (nI 0) 39 j = nI (h.2.2.1 j) := (congrFun (uI_p (by decide)) _).trans (hJ.2.1 rfl)
      obtain ⟨hla, hle⟩ := hB hth
      refine T_ald0 dX7_put_14 ?_
      refine T_getR (q := 38) dX7_put_15 lf_X7_9 rfl rfl rfl ?_
      refine T_ild1 dX7_put_18 ?_
      refine T_ialdN dX7_put_19 rfl (by show _ < 4; omega) hs ?_
      refine T_bipush (v := -9) dX7_put_20 (by decide) ?_
      refine T_cne (tgt := 31) dX7_put_22 (by decide) (fun h22 => ?_) (fun h22 => by exact absurd h22 (nI_m9 (by omega)))
      refine T_ild2 dX7_put_31 ?_
      refine T_iconst (v := nI 0) dX7_put_32 (by decide) ?_
      refine T_ald0 dX7_put_33 ?_
      refine T_getR (q := 39) dX7_put_34 lf_X7_13 rfl rfl rfl ?_
      refine T_ild1 dX7_put_37 ?_
      refine T_ialdN dX7_put_38 rfl (by show _ < 4; omega) hln ?_
      refine T_iconst (v := nI 1) dX7_put_39 (by decide) ?_
      refine T_isub dX7_put_40 ?_
      refine T_invS3i (M' := mX7_within) dX7_put_41 ml_X7_74 imX7_within (Nat.le_of_ble_eq_true rfl) rfl (Nat.le_of_ble_eq_true rfl) (c_within_m1 hle) ?_
      refine T_ifneB (tgt := 53) dX7_put_44 (by decide) (fun h44 => ?_) (fun h44 => ?_)
      · obtain ⟨i, hi, rfl⟩ := blw_t h44
        have ii : ix (nI i) = i := ix_n (by omega)
        refine T_ald0 dX7_put_53 ?_
        refine T_getR (q := 40) dX7_put_54 lf_X7_16 rfl rfl rfl ?_
        refine T_bipush (v := nI 60) dX7_put_57 (by decide) ?_
        refine T_ild1 dX7_put_59 ?_
        refine T_imulN dX7_put_60 ?_
        refine T_ild2 dX7_put_61 ?_
        refine T_iaddN dX7_put_62 ?_
        refine T_ald0 dX7_put_63 ?_
        refine T_getR (q := 38) dX7_put_64 lf_X7_9 rfl rfl rfl ?_
        refine T_ild1 dX7_put_67 ?_
        refine T_ialdN dX7_put_68 rfl (by show _ < 4; omega) hs ?_
        refine T_ifneN (tgt := 77) dX7_put_69 (by decide) (by omega) (fun h69 => ?_) (fun h69 => ?_)
        · refine T_ald0 dX7_put_77 ?_
          refine T_getR (q := 38) dX7_put_78 lf_X7_9 rfl rfl rfl ?_
          refine T_ild1 dX7_put_81 ?_
          refine T_ialdN dX7_put_82 rfl (by show _ < 4; omega) hs ?_
          refine T_iconst (v := nI 1) dX7_put_83 (by decide) ?_
          refine T_cneN (tgt := 92) dX7_put_84 (by decide) (by omega) (by omega) (fun h84 => ?_) (fun h84 => ?_)
          · refine T_ild3 dX7_put_92 ?_
            refine T_iast dX7_put_93 rfl (by show _ < 240; omega) rfl ?_
            refine T_iconst (v := nI 1) dX7_put_94 (by decide) ?_
            refine T_iret dX7_put_95 rfl ?_
            rw [show aPut h (nI j) (nI i) = nI 1 from (if_pos h9).trans ((if_pos (by rw [ij]; exact hth)).trans (if_pos (by rw [ij]; exact h44))), show sPut h (nI j) (nI i) v = (h.1, h.2.1, h.2.2.1, va_up h.2.2.2 j (va_up (h.2.2.2 j) i (cutI (h.2.1 j) v))) from (if_pos (by rw [ij, h9, hth, h44]; rfl)).trans (by rw [ij, ii]), show fPut h (nI j) (nI i) = 0 from (if_pos h9).trans ((if_pos (by rw [ij]; exact hth)).trans (if_pos (by rw [ij]; exact h44)))]; refine ⟨_, rfl, rfl, fun k hk => ?_, FN_u (FN_0 FN_r) (by decide) (by decide), ?_⟩
            · have q := hH k hk
              rw [uI_p (a := 38) (by decide), uI_p (a := 38) (by decide), uI_p (a := 39) (by decide), uI_p (a := 39) (by decide)]
              refine ⟨q.1, q.2.1, fun z hz => ?_⟩
              by_cases e : k = j
              · subst e
                simp only [va_up, if_true]
                by_cases e2 : z = i
                · subst e2; rw [uI_s, if_pos rfl]; first | exact (if_pos h69).symm | exact ((if_neg h69).trans (if_pos h84)).symm | exact ((if_neg h69).trans (if_neg h84)).symm | fail "cut"
                · rw [uI_k (by omega), if_neg e2, uI_p (by decide)]; exact q.2.2 z hz
              · simp only [va_up, if_neg e]
                rw [uI_k (by omega), uI_p (by decide)]; exact q.2.2 z hz
            · rw [uI_p (by decide), uI_s]
          · refine T_ild3 dX7_put_87 ?_
            refine T_i2s dX7_put_88 ?_
            refine T_goto (tgt := 93) dX7_put_89 (by decide) ?_
            refine T_iast dX7_put_93 rfl (by show _ < 240; omega) rfl ?_
            refine T_iconst (v := nI 1) dX7_put_94 (by decide) ?_
            refine T_iret dX7_put_95 rfl ?_
            rw [show aPut h (nI j) (nI i) = nI 1 from (if_pos h9).trans ((if_pos (by rw [ij]; exact hth)).trans (if_pos (by rw [ij]; exact h44))), show sPut h (nI j) (nI i) v = (h.1, h.2.1, h.2.2.1, va_up h.2.2.2 j (va_up (h.2.2.2 j) i (cutI (h.2.1 j) v))) from (if_pos (by rw [ij, h9, hth, h44]; rfl)).trans (by rw [ij, ii]), show fPut h (nI j) (nI i) = 0 from (if_pos h9).trans ((if_pos (by rw [ij]; exact hth)).trans (if_pos (by rw [ij]; exact h44)))]; refine ⟨_, rfl, rfl, fun k hk => ?_, FN_u (FN_0 FN_r) (by decide) (by decide), ?_⟩
            · have q := hH k hk
              rw [uI_p (a := 38) (by decide), uI_p (a := 38) (by decide), uI_p (a := 39) (by decide), uI_p (a := 39) (by decide)]
              refine ⟨q.1, q.2.1, fun z hz => ?_⟩
              by_cases e : k = j
              · subst e
                simp only [va_up, if_true]
                by_cases e2 : z = i
                · subst e2; rw [uI_s, if_pos rfl]; first | exact (if_pos h69).symm | exact ((if_neg h69).trans (if_pos h84)).symm | exact ((if_neg h69).trans (if_neg h84)).symm | fail "cut"
                · rw [uI_k (by omega), if_neg e2, uI_p (by decide)]; exact q.2.2 z hz
              · simp only [va_up, if_neg e]
                rw [uI_k (by omega), uI_p (by decide)]; exact q.2.2 z hz
            · rw [uI_p (by decide), uI_s]
        · refine T_ild3 dX7_put_72 ?_
          refine T_i2b dX7_put_73 ?_
          refine T_goto (tgt := 93) dX7_put_74 (by decide) ?_
          refine T_iast dX7_put_93 rfl (by show _ < 240; omega) rfl ?_
          refine T_iconst (v := nI 1) dX7_put_94 (by decide) ?_
          refine T_iret dX7_put_95 rfl ?_
          rw [show aPut h (nI j) (nI i) = nI 1 from (if_pos h9).trans ((if_pos (by rw [ij]; exact hth)).trans (if_pos (by rw [ij]; exact h44))), show sPut h (nI j) (nI i) v = (h.1, h.2.1, h.2.2.1, va_up h.2.2.2 j (va_up (h.2.2.2 j) i (cutI (h.2.1 j) v))) from (if_pos (by rw [ij, h9, hth, h44]; rfl)).trans (by rw [ij, ii]), show fPut h (nI j) (nI i) = 0 from (if_pos h9).trans ((if_pos (by rw [ij]; exact hth)).trans (if_pos (by rw [ij]; exact h44)))]; refine ⟨_, rfl, rfl, fun k hk => ?_, FN_u (FN_0 FN_r) (by decide) (by decide), ?_⟩
          · have q := hH k hk
            rw [uI_p (a := 38) (by decide), uI_p (a := 38) (by decide), uI_p (a := 39) (by decide), uI_p (a := 39) (by decide)]
            refine ⟨q.1, q.2.1, fun z hz => ?_⟩
            by_cases e : k = j
            · subst e
              simp only [va_up, if_true]
              by_cases e2 : z = i
              · subst e2; rw [uI_s, if_pos rfl]; first | exact (if_pos h69).symm | exact ((if_neg h69).trans (if_pos h84)).symm | exact ((if_neg h69).trans (if_neg h84)).symm | fail "cut"
              · rw [uI_k (by omega), if_neg e2, uI_p (by decide)]; exact q.2.2 z hz
            · simp only [va_up, if_neg e]
              rw [uI_k (by omega), uI_p (by decide)]; exact q.2.2 z hz
          · rw [uI_p (by decide), uI_s]
      · refine T_ald0 dX7_put_47 ?_
        refine T_iconst (v := nI 3) dX7_put_48 (by decide) ?_
        refine T_invV1i (M' := mX7_fails) dX7_put_49 ml_X7_98 imX7_fails rfl (Nat.le_of_ble_eq_true rfl) rfl (Nat.le_of_ble_eq_true rfl) rfl (Nat.le_of_ble_eq_true rfl) c_X7_fails ?_
        refine T_iret dX7_put_52 rfl ?_
        rw [show aPut h (nI j) y = -10 - nI 3 from (if_pos h9).trans ((if_pos (by rw [ij]; exact hth)).trans (if_neg (by simp [ij, h44]))), show sPut h (nI j) y v = h from if_neg (by simp [ij, h44]), show fPut h (nI j) y = 3 from (if_pos h9).trans ((if_pos (by rw [ij]; exact hth)).trans (if_neg (by simp [ij, h44])))]; exact ⟨_, rfl, rfl, (hH.cong (fun q h1 h2 => by rw [uI_p (by omega), uI_p (by omega)])), FN_0 (FN_0 FN_r), uI_s⟩
  · refine T_iconst (v := -1) dX7_put_12 (by decide) ?_
    refine T_iret dX7_put_13 rfl ?_
    rw [show aPut h x y = -1 from if_neg (by simp [h9]), show sPut h x y v = h from if_neg (by simp [h9]), show fPut h x y = 0 from if_neg (by simp [h9])]; exact ⟨_, rfl, rfl, hH.cong (fun q h1 h2 => uI_p (by omega)), FN_0 FN_r, uI_s⟩
set_option maxRecDepth 20000 in
theorem c_X7_cell {S : Nat → Nat → Int32} {L : Nat → Nat → Int64} {R : Nat × Nat × Nat} {d : Nat} {h : HS} (hH : SHM S h) (hBH : BH h) {x y l : Int32} : TT mX7_cell (d + 2) 0 [some (.ref 37), some (.int (x)), some (.int (y)), some (.int (l))] [] (S, L, R) (fun r σ' => ∃ S', σ' = (S', L, R) ∧ r = some (.long (aCell h x y l)) ∧ SHM S' h ∧ FN S S' ∧ S' 37 0 = nI (fCell h x y l)) := by
  refine T_ald0 dX7_cell_0 ?_
  refine T_iconst (v := nI 0) dX7_cell_1 (by decide) ?_
  refine T_putI dX7_cell_2 lf_X7_68 rfl rfl rfl rfl ?_
  refine T_ild1 dX7_cell_5 ?_
  refine T_invS1i (M' := mX7_isSheet) dX7_cell_6 ml_X7_87 imX7_isSheet (Nat.le_of_ble_eq_true rfl) rfl (Nat.le_of_ble_eq_true rfl) c_X7_isSheet ?_
  refine T_ifeqB (tgt := 19) dX7_cell_9 (by decide) (fun h9 => ?_) (fun h9 => ?_)
  · refine T_ldc2 ct_X7_72 dX7_cell_19 ?_
    refine T_lret dX7_cell_22 rfl ?_
    rw [show aCell h x y l = LOSTV from if_neg (by first | (simp [h9]; done) | simp [h9, h16]), show fCell h x y l = 0 from if_neg (by first | (simp [h9]; done) | simp [h9, h16])]; exact ⟨_, rfl, rfl, hH.cong (fun q h1 h2 => uI_p (by omega)), FN_0 FN_r, uI_s⟩
  · refine T_ild3 dX7_cell_12 ?_
    refine T_invS1i (M' := mX7_isSort) dX7_cell_13 ml_X7_91 imX7_isSort (Nat.le_of_ble_eq_true rfl) rfl (Nat.le_of_ble_eq_true rfl) c_X7_isSort ?_
    refine T_ifneB (tgt := 23) dX7_cell_16 (by decide) (fun h16 => ?_) (fun h16 => ?_)
    · obtain ⟨j, hj, rfl⟩ := blw_t h9
      have ij : ix (nI j) = j := ix_n (by omega)
      have hJ := hH j hj
      have hB := hBH j hj
      cases hth : h.1 j with
      | false =>
        rw [hth] at hJ
        have hs : uI S 37 0 (nI 0) 38 j = -9 := (congrFun (uI_p (by decide)) _).trans hJ.1
        refine T_ald0 dX7_cell_23 ?_
        refine T_getR (q := 38) dX7_cell_24 lf_X7_9 rfl rfl rfl ?_
        refine T_ild1 dX7_cell_27 ?_
        refine T_ialdV dX7_cell_28 rfl (by show _ < 4; omega) hs ?_
        refine T_bipush (v := -9) dX7_cell_29 (by decide) ?_
        refine T_ceq (tgt := 50) dX7_cell_31 (by decide) (fun h31 => ?_) (fun h31 => by exact absurd rfl h31)
        refine T_ald0 dX7_cell_50 ?_
        refine T_getR (q := 38) dX7_cell_51 lf_X7_9 rfl rfl rfl ?_
        refine T_ild1 dX7_cell_54 ?_
        refine T_ialdV dX7_cell_55 rfl (by show _ < 4; omega) hs ?_
        refine T_bipush (v := -9) dX7_cell_56 (by decide) ?_
        refine T_cne (tgt := 67) dX7_cell_58 (by decide) (fun h58 => by exact absurd rfl h58) (fun h58 => ?_)
        refine T_ald0 dX7_cell_61 ?_
        refine T_iconst (v := nI 1) dX7_cell_62 (by decide) ?_
        refine T_invV1l (M' := mX7_lost) dX7_cell_63 ml_X7_239 imX7_lost rfl (Nat.le_of_ble_eq_true rfl) rfl (Nat.le_of_ble_eq_true rfl) rfl (Nat.le_of_ble_eq_true rfl) c_X7_lost ?_
        refine T_lret dX7_cell_66 rfl ?_
        have hF : fC h (nI j) l y (nI 1) = 1 := by unfold fC; rw [ij]; exact if_pos hth
        rw [show aCell h (nI j) y l = LOSTV from (if_pos (by rw [h9, h16]; rfl)).trans (if_neg (by rw [hF]; decide)), show fCell h (nI j) y l = 1 from (if_pos (by rw [h9, h16]; rfl)).trans hF]; exact ⟨_, rfl, rfl, (hH.cong (fun q h1 h2 => by rw [uI_p (by omega), uI_p (by omega)])), FN_0 (FN_0 FN_r), uI_s⟩
      | true =>
        rw [hth] at hJ
        have hs : uI S 37 0 (nI 0) 38 j = nI (h.2.1 j) := (congrFun (uI_p (by decide)) _).trans hJ.1
        have hln : uI S 37 0 (nI 0) 39 j = nI (h.2.2.1 j) := (congrFun (uI_p (by decide)) _).trans (hJ.2.1 rfl)
        obtain ⟨hla, hle⟩ := hB hth
        refine T_ald0 dX7_cell_23 ?_
        refine T_getR (q := 38) dX7_cell_24 lf_X7_9 rfl rfl rfl ?_
        refine T_ild1 dX7_cell_27 ?_
        refine T_ialdN dX7_cell_28 rfl (by show _ < 4; omega) hs ?_
        refine T_bipush (v := -9) dX7_cell_29 (by decide) ?_
        refine T_ceq (tgt := 50) dX7_cell_31 (by decide) (fun h31 => by exact absurd h31 (nI_m9 (by omega))) (fun h31 => ?_)
        refine T_ald0 dX7_cell_34 ?_
        refine T_getR (q := 38) dX7_cell_35 lf_X7_9 rfl rfl rfl ?_
        refine T_ild1 dX7_cell_38 ?_
        refine T_ialdN dX7_cell_39 rfl (by show _ < 4; omega) hs ?_
        refine T_ild3 dX7_cell_40 ?_
        refine T_ceq (tgt := 50) dX7_cell_41 (by decide) (fun h41 => ?_) (fun h41 => ?_)
        · refine T_ald0 dX7_cell_50 ?_
          refine T_getR (q := 38) dX7_cell_51 lf_X7_9 rfl rfl rfl ?_
          refine T_ild1 dX7_cell_54 ?_
          refine T_ialdN dX7_cell_55 rfl (by show _ < 4; omega) hs ?_
          refine T_bipush (v := -9) dX7_cell_56 (by decide) ?_
          refine T_cne (tgt := 67) dX7_cell_58 (by decide) (fun h58 => ?_) (fun h58 => by exact absurd h58 (nI_m9 (by omega)))
          refine T_ild2 dX7_cell_67 ?_
          refine T_iconst (v := nI 0) dX7_cell_68 (by decide) ?_
          refine T_ald0 dX7_cell_69 ?_
          refine T_getR (q := 39) dX7_cell_70 lf_X7_13 rfl rfl rfl ?_
          refine T_ild1 dX7_cell_73 ?_
          refine T_ialdN dX7_cell_74 rfl (by show _ < 4; omega) hln ?_
          refine T_iconst (v := nI 1) dX7_cell_75 (by decide) ?_
          refine T_isub dX7_cell_76 ?_
          refine T_invS3i (M' := mX7_within) dX7_cell_77 ml_X7_74 imX7_within (Nat.le_of_ble_eq_true rfl) rfl (Nat.le_of_ble_eq_true rfl) (c_within_m1 hle) ?_
          refine T_ifneB (tgt := 89) dX7_cell_80 (by decide) (fun h80 => ?_) (fun h80 => ?_)
          · obtain ⟨i, hi, rfl⟩ := blw_t h80
            have ii : ix (nI i) = i := ix_n (by omega)
            refine T_ald0 dX7_cell_89 ?_
            refine T_getR (q := 40) dX7_cell_90 lf_X7_16 rfl rfl rfl ?_
            refine T_bipush (v := nI 60) dX7_cell_93 (by decide) ?_
            refine T_ild1 dX7_cell_95 ?_
            refine T_imulN dX7_cell_96 ?_
            refine T_ild2 dX7_cell_97 ?_
            refine T_iaddN dX7_cell_98 ?_
            refine T_ialdV dX7_cell_99 rfl (by show _ < 240; omega) ((congrFun (uI_p (by decide)) _).trans (hJ.2.2 i (by omega))) ?_
            refine T_i2l dX7_cell_100 ?_
            refine T_lret dX7_cell_101 rfl ?_
            have hF : fC h (nI j) l (nI i) (nI 1) = 0 := by unfold fC; rw [ij]; exact (if_neg (by rw [hth]; decide)).trans ((if_neg (fun q => q h41.symm)).trans ((if_neg (by decide)).trans (if_pos (by rw [hasB_1 hle, h80]))))
            rw [show aCell h (nI j) (nI i) l = (h.2.2.2 j i).toInt64 from (if_pos (by rw [h9, h16]; rfl)).trans ((if_pos hF).trans (by rw [ij, ii])), show fCell h (nI j) (nI i) l = 0 from (if_pos (by rw [h9, h16]; rfl)).trans hF]; exact ⟨_, rfl, rfl, hH.cong (fun q h1 h2 => uI_p (by omega)), FN_0 FN_r, uI_s⟩
          · refine T_ald0 dX7_cell_83 ?_
            refine T_iconst (v := nI 3) dX7_cell_84 (by decide) ?_
            refine T_invV1l (M' := mX7_lost) dX7_cell_85 ml_X7_239 imX7_lost rfl (Nat.le_of_ble_eq_true rfl) rfl (Nat.le_of_ble_eq_true rfl) rfl (Nat.le_of_ble_eq_true rfl) c_X7_lost ?_
            refine T_lret dX7_cell_88 rfl ?_
            have hF : fC h (nI j) l y (nI 1) = 3 := by unfold fC; rw [ij]; exact (if_neg (by rw [hth]; decide)).trans ((if_neg (fun q => q h41.symm)).trans ((if_neg (by decide)).trans (if_neg (by rw [hasB_1 hle, h80]; decide))))
            rw [show aCell h (nI j) y l = LOSTV from (if_pos (by rw [h9, h16]; rfl)).trans (if_neg (by rw [hF]; decide)), show fCell h (nI j) y l = 3 from (if_pos (by rw [h9, h16]; rfl)).trans hF]; exact ⟨_, rfl, rfl, (hH.cong (fun q h1 h2 => by rw [uI_p (by omega), uI_p (by omega)])), FN_0 (FN_0 FN_r), uI_s⟩
        · refine T_ald0 dX7_cell_44 ?_
          refine T_iconst (v := nI 2) dX7_cell_45 (by decide) ?_
          refine T_invV1l (M' := mX7_lost) dX7_cell_46 ml_X7_239 imX7_lost rfl (Nat.le_of_ble_eq_true rfl) rfl (Nat.le_of_ble_eq_true rfl) rfl (Nat.le_of_ble_eq_true rfl) c_X7_lost ?_
          refine T_lret dX7_cell_49 rfl ?_
          have hF : fC h (nI j) l y (nI 1) = 2 := by unfold fC; rw [ij]; exact (if_neg (by rw [hth]; decide)).trans (if_pos (fun q => h41 q.symm))
          rw [show aCell h (nI j) y l = LOSTV from (if_pos (by rw [h9, h16]; rfl)).trans (if_neg (by rw [hF]; decide)), show fCell h (nI j) y l = 2 from (if_pos (by rw [h9, h16]; rfl)).trans hF]; exact ⟨_, rfl, rfl, (hH.cong (fun q h1 h2 => by rw [uI_p (by omega), uI_p (by omega)])), FN_0 (FN_0 FN_r), uI_s⟩
    · refine T_ldc2 ct_X7_72 dX7_cell_19 ?_
      refine T_lret dX7_cell_22 rfl ?_
      rw [show aCell h x y l = LOSTV from if_neg (by first | (simp [h9]; done) | simp [h9, h16]), show fCell h x y l = 0 from if_neg (by first | (simp [h9]; done) | simp [h9, h16])]; exact ⟨_, rfl, rfl, hH.cong (fun q h1 h2 => uI_p (by omega)), FN_0 FN_r, uI_s⟩
