set_option maxRecDepth 20000 in
theorem c_X7_copy {S : Nat → Nat → Int32} {L : Nat → Nat → Int64} {R : Nat × Nat × Nat} {d : Nat} {h : HS} (hH : SHM S h) (hBH : BH h) {x y u z w : Int32} : TT mX7_copy (d + 2) 0 [some (.ref 37), some (.int (x)), some (.int (y)), some (.int (u)), some (.int (z)), some (.int (w)), none, none, none, none] [] (S, L, R) (fun r σ' => ∃ S', σ' = (S', L, R) ∧ r = some (.int (aCopy h x y u z w)) ∧ SHM S' (sCopy h x y u z w) ∧ FN S S' ∧ S' 37 0 = nI (fCopy h x y u z w)) := by
  refine T_ald0 dX7_copy_0 ?_
  refine T_iconst (v := nI 0) dX7_copy_1 (by decide) ?_
  refine T_putI dX7_copy_2 lf_X7_68 rfl rfl rfl rfl ?_
  refine T_ild1 dX7_copy_5 ?_
  refine T_invS1i (M' := mX7_isSheet) dX7_copy_6 ml_X7_87 imX7_isSheet (Nat.le_of_ble_eq_true rfl) rfl (Nat.le_of_ble_eq_true rfl) c_X7_isSheet ?_
  refine T_ifeqB (tgt := 19) dX7_copy_9 (by decide) (fun h9 => ?_) (fun h9 => ?_)
  · refine T_iconst (v := -1) dX7_copy_19 (by decide) ?_
    refine T_iret dX7_copy_20 rfl ?_
    rw [show aCopy h x y u z w = -1 from if_neg (by first | (simp [h9]; done) | simp [h9, h16]), show sCopy h x y u z w = h from if_neg (by first | (simp [h9]; done) | simp [h9, h16]), show fCopy h x y u z w = 0 from if_neg (by first | (simp [h9]; done) | simp [h9, h16])]; exact ⟨_, rfl, rfl, hH.cong (fun q h1 h2 => uI_p (by omega)), FN_0 FN_r, uI_s⟩
  · refine T_ild3 dX7_copy_12 ?_
    refine T_invS1i (M' := mX7_isSheet) dX7_copy_13 ml_X7_87 imX7_isSheet (Nat.le_of_ble_eq_true rfl) rfl (Nat.le_of_ble_eq_true rfl) c_X7_isSheet ?_
    refine T_ifneB (tgt := 21) dX7_copy_16 (by decide) (fun h16 => ?_) (fun h16 => ?_)
    · obtain ⟨j, hj, rfl⟩ := blw_t h9
      have ij : ix (nI j) = j := ix_n (by omega)
      have hJ := hH j hj
      have hB := hBH j hj
      obtain ⟨o, ho, rfl⟩ := blw_t h16
      have io : ix (nI o) = o := ix_n (by omega)
      have hO := hH o ho
      have hB2 := hBH o ho
      have hJc := hJ.2.2
      cases hth1 : h.1 j with
      | false =>
        rw [hth1] at hJ
        have hs1 : uI S 37 0 (nI 0) 38 j = -9 := (congrFun (uI_p (by decide)) _).trans hJ.1
        refine T_ald0 dX7_copy_21 ?_
        refine T_getR (q := 38) dX7_copy_22 lf_X7_9 rfl rfl rfl ?_
        refine T_ild1 dX7_copy_25 ?_
        refine T_ialdV dX7_copy_26 rfl (by show _ < 4; omega) hs1 ?_
        refine T_bipush (v := -9) dX7_copy_27 (by decide) ?_
        refine T_ceq (tgt := 43) dX7_copy_29 (by decide) (fun h29 => ?_) (fun h29 => by exact absurd rfl h29)
        refine T_ald0 dX7_copy_43 ?_
        refine T_iconst (v := nI 1) dX7_copy_44 (by decide) ?_
        refine T_invV1i (M' := mX7_fails) dX7_copy_45 ml_X7_98 imX7_fails rfl (Nat.le_of_ble_eq_true rfl) rfl (Nat.le_of_ble_eq_true rfl) rfl (Nat.le_of_ble_eq_true rfl) c_X7_fails ?_
        refine T_iret dX7_copy_48 rfl ?_
        rw [show aCopy h (nI j) y (nI o) z w = -10 - nI 1 from (if_pos (by rw [h9, h16]; rfl)).trans (if_neg (by rw [ij, io]; first | (simp [hth1]; done) | simp [hth1, hth2])), show sCopy h (nI j) y (nI o) z w = h from if_neg (by rw [ij, io]; first | (simp [hth1]; done) | simp [hth1, hth2]), show fCopy h (nI j) y (nI o) z w = 1 from (if_pos (by rw [h9, h16]; rfl)).trans (if_neg (by rw [ij, io]; first | (simp [hth1]; done) | simp [hth1, hth2]))]; exact ⟨_, rfl, rfl, (hH.cong (fun q h1 h2 => by rw [uI_p (by omega), uI_p (by omega)])), FN_0 (FN_0 FN_r), uI_s⟩
      | true =>
        rw [hth1] at hJ
        have hs1 : uI S 37 0 (nI 0) 38 j = nI (h.2.1 j) := (congrFun (uI_p (by decide)) _).trans hJ.1
        have hln1 : uI S 37 0 (nI 0) 39 j = nI (h.2.2.1 j) := (congrFun (uI_p (by decide)) _).trans (hJ.2.1 rfl)
        obtain ⟨hla1, hle1⟩ := hB hth1
        cases hth2 : h.1 o with
        | false =>
          rw [hth2] at hO
          have hs2 : uI S 37 0 (nI 0) 38 o = -9 := (congrFun (uI_p (by decide)) _).trans hO.1
          refine T_ald0 dX7_copy_21 ?_
          refine T_getR (q := 38) dX7_copy_22 lf_X7_9 rfl rfl rfl ?_
          refine T_ild1 dX7_copy_25 ?_
          refine T_ialdN dX7_copy_26 rfl (by show _ < 4; omega) hs1 ?_
          refine T_bipush (v := -9) dX7_copy_27 (by decide) ?_
          refine T_ceq (tgt := 43) dX7_copy_29 (by decide) (fun h29 => by exact absurd h29 (nI_m9 (by omega))) (fun h29 => ?_)
          refine T_ald0 dX7_copy_32 ?_
          refine T_getR (q := 38) dX7_copy_33 lf_X7_9 rfl rfl rfl ?_
          refine T_ild3 dX7_copy_36 ?_
          refine T_ialdV dX7_copy_37 rfl (by show _ < 4; omega) hs2 ?_
          refine T_bipush (v := -9) dX7_copy_38 (by decide) ?_
          refine T_cne (tgt := 49) dX7_copy_40 (by decide) (fun h40 => by exact absurd rfl h40) (fun h40 => ?_)
          refine T_ald0 dX7_copy_43 ?_
          refine T_iconst (v := nI 1) dX7_copy_44 (by decide) ?_
          refine T_invV1i (M' := mX7_fails) dX7_copy_45 ml_X7_98 imX7_fails rfl (Nat.le_of_ble_eq_true rfl) rfl (Nat.le_of_ble_eq_true rfl) rfl (Nat.le_of_ble_eq_true rfl) c_X7_fails ?_
          refine T_iret dX7_copy_48 rfl ?_
          rw [show aCopy h (nI j) y (nI o) z w = -10 - nI 1 from (if_pos (by rw [h9, h16]; rfl)).trans (if_neg (by rw [ij, io]; first | (simp [hth1]; done) | simp [hth1, hth2])), show sCopy h (nI j) y (nI o) z w = h from if_neg (by rw [ij, io]; first | (simp [hth1]; done) | simp [hth1, hth2]), show fCopy h (nI j) y (nI o) z w = 1 from (if_pos (by rw [h9, h16]; rfl)).trans (if_neg (by rw [ij, io]; first | (simp [hth1]; done) | simp [hth1, hth2]))]; exact ⟨_, rfl, rfl, (hH.cong (fun q h1 h2 => by rw [uI_p (by omega), uI_p (by omega)])), FN_0 (FN_0 FN_r), uI_s⟩
        | true =>
          rw [hth2] at hO
          have hs2 : uI S 37 0 (nI 0) 38 o = nI (h.2.1 o) := (congrFun (uI_p (by decide)) _).trans hO.1
          have hln2 : uI S 37 0 (nI 0) 39 o = nI (h.2.2.1 o) := (congrFun (uI_p (by decide)) _).trans (hO.2.1 rfl)
          obtain ⟨hla2, hle2⟩ := hB2 hth2
          by_cases hll : h.2.1 j = h.2.1 o
          · cases hbb : (hasB y w (h.2.2.1 j) && hasB z w (h.2.2.1 o)) with
            | false =>
              have eA : aCopy h (nI j) y (nI o) z w = -10 - nI 3 := (if_pos (by rw [h9, h16]; rfl)).trans ((if_pos (by rw [ij, io, hth1, hth2]; rfl)).trans ((if_pos (by rw [ij, io]; exact hll)).trans (if_neg (by rw [ij, io, hbb]; decide))))
              have eS : sCopy h (nI j) y (nI o) z w = h := if_neg (by rw [ij, io, hbb]; simp)
              have eF : fCopy h (nI j) y (nI o) z w = 3 := (if_pos (by rw [h9, h16]; rfl)).trans ((if_pos (by rw [ij, io, hth1, hth2]; rfl)).trans ((if_pos (by rw [ij, io]; exact hll)).trans (if_neg (by rw [ij, io, hbb]; decide))))
              by_cases hy : y < 0
              · skip
                refine T_ald0 dX7_copy_21 ?_
                refine T_getR (q := 38) dX7_copy_22 lf_X7_9 rfl rfl rfl ?_
                refine T_ild1 dX7_copy_25 ?_
                refine T_ialdN dX7_copy_26 rfl (by show _ < 4; omega) hs1 ?_
                refine T_bipush (v := -9) dX7_copy_27 (by decide) ?_
                refine T_ceq (tgt := 43) dX7_copy_29 (by decide) (fun h29 => by exact absurd h29 (nI_m9 (by omega))) (fun h29 => ?_)
                refine T_ald0 dX7_copy_32 ?_
                refine T_getR (q := 38) dX7_copy_33 lf_X7_9 rfl rfl rfl ?_
                refine T_ild3 dX7_copy_36 ?_
                refine T_ialdN dX7_copy_37 rfl (by show _ < 4; omega) hs2 ?_
                refine T_bipush (v := -9) dX7_copy_38 (by decide) ?_
                refine T_cne (tgt := 49) dX7_copy_40 (by decide) (fun h40 => ?_) (fun h40 => by exact absurd h40 (nI_m9 (by omega)))
                refine T_ald0 dX7_copy_49 ?_
                refine T_getR (q := 38) dX7_copy_50 lf_X7_9 rfl rfl rfl ?_
                refine T_ild1 dX7_copy_53 ?_
                refine T_ialdN dX7_copy_54 rfl (by show _ < 4; omega) hs1 ?_
                refine T_ald0 dX7_copy_55 ?_
                refine T_getR (q := 38) dX7_copy_56 lf_X7_9 rfl rfl rfl ?_
                refine T_ild3 dX7_copy_59 ?_
                refine T_ialdN dX7_copy_60 rfl (by show _ < 4; omega) hs2 ?_
                refine T_ceqN (tgt := 70) dX7_copy_61 (by decide) (by omega) (by omega) (fun h61 => ?_) (fun h61 => by exact absurd hll h61)
                refine T_ild2 dX7_copy_70 ?_
                refine T_iflt (tgt := 109) dX7_copy_71 (by decide) (fun h71 => ?_) (fun h71 => by exact absurd hy h71)
                refine T_iconst (v := bI false) dX7_copy_109 (by decide) ?_
                refine T_ist6 dX7_copy_110 (by decide) rfl ?_
                refine T_ild6 dX7_copy_112 ?_
                refine T_ifeqB (tgt := 144) dX7_copy_114 (by decide) (fun h114 => ?_) (fun h114 => by cases h114)
                refine T_ald0 dX7_copy_144 ?_
                refine T_iconst (v := nI 3) dX7_copy_145 (by decide) ?_
                refine T_invV1i (M' := mX7_fails) dX7_copy_146 ml_X7_98 imX7_fails rfl (Nat.le_of_ble_eq_true rfl) rfl (Nat.le_of_ble_eq_true rfl) rfl (Nat.le_of_ble_eq_true rfl) c_X7_fails ?_
                refine T_iret dX7_copy_149 rfl ?_
                rw [eA, eS, eF]; exact ⟨_, rfl, rfl, (hH.cong (fun q h1 h2 => by rw [uI_p (by omega), uI_p (by omega)])), FN_0 (FN_0 FN_r), uI_s⟩
              · obtain ⟨p1, hp1, rfl⟩ := nI_of hy
                by_cases hz : z < 0
                · skip
                  refine T_ald0 dX7_copy_21 ?_
                  refine T_getR (q := 38) dX7_copy_22 lf_X7_9 rfl rfl rfl ?_
                  refine T_ild1 dX7_copy_25 ?_
                  refine T_ialdN dX7_copy_26 rfl (by show _ < 4; omega) hs1 ?_
                  refine T_bipush (v := -9) dX7_copy_27 (by decide) ?_
                  refine T_ceq (tgt := 43) dX7_copy_29 (by decide) (fun h29 => by exact absurd h29 (nI_m9 (by omega))) (fun h29 => ?_)
                  refine T_ald0 dX7_copy_32 ?_
                  refine T_getR (q := 38) dX7_copy_33 lf_X7_9 rfl rfl rfl ?_
                  refine T_ild3 dX7_copy_36 ?_
                  refine T_ialdN dX7_copy_37 rfl (by show _ < 4; omega) hs2 ?_
                  refine T_bipush (v := -9) dX7_copy_38 (by decide) ?_
                  refine T_cne (tgt := 49) dX7_copy_40 (by decide) (fun h40 => ?_) (fun h40 => by exact absurd h40 (nI_m9 (by omega)))
                  refine T_ald0 dX7_copy_49 ?_
                  refine T_getR (q := 38) dX7_copy_50 lf_X7_9 rfl rfl rfl ?_
                  refine T_ild1 dX7_copy_53 ?_
                  refine T_ialdN dX7_copy_54 rfl (by show _ < 4; omega) hs1 ?_
                  refine T_ald0 dX7_copy_55 ?_
                  refine T_getR (q := 38) dX7_copy_56 lf_X7_9 rfl rfl rfl ?_
                  refine T_ild3 dX7_copy_59 ?_
                  refine T_ialdN dX7_copy_60 rfl (by show _ < 4; omega) hs2 ?_
                  refine T_ceqN (tgt := 70) dX7_copy_61 (by decide) (by omega) (by omega) (fun h61 => ?_) (fun h61 => by exact absurd hll h61)
                  refine T_ild2 dX7_copy_70 ?_
                  refine T_ifltN (tgt := 109) dX7_copy_71 (by decide) (by omega) ?_
                  refine T_ild4 dX7_copy_74 ?_
                  refine T_iflt (tgt := 109) dX7_copy_76 (by decide) (fun h76 => ?_) (fun h76 => by exact absurd hz h76)
                  refine T_iconst (v := bI false) dX7_copy_109 (by decide) ?_
                  refine T_ist6 dX7_copy_110 (by decide) rfl ?_
                  refine T_ild6 dX7_copy_112 ?_
                  refine T_ifeqB (tgt := 144) dX7_copy_114 (by decide) (fun h114 => ?_) (fun h114 => by cases h114)
                  refine T_ald0 dX7_copy_144 ?_
                  refine T_iconst (v := nI 3) dX7_copy_145 (by decide) ?_
                  refine T_invV1i (M' := mX7_fails) dX7_copy_146 ml_X7_98 imX7_fails rfl (Nat.le_of_ble_eq_true rfl) rfl (Nat.le_of_ble_eq_true rfl) rfl (Nat.le_of_ble_eq_true rfl) c_X7_fails ?_
                  refine T_iret dX7_copy_149 rfl ?_
                  rw [eA, eS, eF]; exact ⟨_, rfl, rfl, (hH.cong (fun q h1 h2 => by rw [uI_p (by omega), uI_p (by omega)])), FN_0 (FN_0 FN_r), uI_s⟩
                · obtain ⟨p2, hp2, rfl⟩ := nI_of hz
                  by_cases hw : w < 0
                  · skip
                    refine T_ald0 dX7_copy_21 ?_
                    refine T_getR (q := 38) dX7_copy_22 lf_X7_9 rfl rfl rfl ?_
                    refine T_ild1 dX7_copy_25 ?_
                    refine T_ialdN dX7_copy_26 rfl (by show _ < 4; omega) hs1 ?_
                    refine T_bipush (v := -9) dX7_copy_27 (by decide) ?_
                    refine T_ceq (tgt := 43) dX7_copy_29 (by decide) (fun h29 => by exact absurd h29 (nI_m9 (by omega))) (fun h29 => ?_)
                    refine T_ald0 dX7_copy_32 ?_
                    refine T_getR (q := 38) dX7_copy_33 lf_X7_9 rfl rfl rfl ?_
                    refine T_ild3 dX7_copy_36 ?_
                    refine T_ialdN dX7_copy_37 rfl (by show _ < 4; omega) hs2 ?_
                    refine T_bipush (v := -9) dX7_copy_38 (by decide) ?_
                    refine T_cne (tgt := 49) dX7_copy_40 (by decide) (fun h40 => ?_) (fun h40 => by exact absurd h40 (nI_m9 (by omega)))
                    refine T_ald0 dX7_copy_49 ?_
                    refine T_getR (q := 38) dX7_copy_50 lf_X7_9 rfl rfl rfl ?_
                    refine T_ild1 dX7_copy_53 ?_
                    refine T_ialdN dX7_copy_54 rfl (by show _ < 4; omega) hs1 ?_
                    refine T_ald0 dX7_copy_55 ?_
                    refine T_getR (q := 38) dX7_copy_56 lf_X7_9 rfl rfl rfl ?_
                    refine T_ild3 dX7_copy_59 ?_
                    refine T_ialdN dX7_copy_60 rfl (by show _ < 4; omega) hs2 ?_
                    refine T_ceqN (tgt := 70) dX7_copy_61 (by decide) (by omega) (by omega) (fun h61 => ?_) (fun h61 => by exact absurd hll h61)
                    refine T_ild2 dX7_copy_70 ?_
                    refine T_ifltN (tgt := 109) dX7_copy_71 (by decide) (by omega) ?_
                    refine T_ild4 dX7_copy_74 ?_
                    refine T_ifltN (tgt := 109) dX7_copy_76 (by decide) (by omega) ?_
                    refine T_ild5 dX7_copy_79 ?_
                    refine T_iflt (tgt := 109) dX7_copy_81 (by decide) (fun h81 => ?_) (fun h81 => by exact absurd hw h81)
                    refine T_iconst (v := bI false) dX7_copy_109 (by decide) ?_
                    refine T_ist6 dX7_copy_110 (by decide) rfl ?_
                    refine T_ild6 dX7_copy_112 ?_
                    refine T_ifeqB (tgt := 144) dX7_copy_114 (by decide) (fun h114 => ?_) (fun h114 => by cases h114)
                    refine T_ald0 dX7_copy_144 ?_
                    refine T_iconst (v := nI 3) dX7_copy_145 (by decide) ?_
                    refine T_invV1i (M' := mX7_fails) dX7_copy_146 ml_X7_98 imX7_fails rfl (Nat.le_of_ble_eq_true rfl) rfl (Nat.le_of_ble_eq_true rfl) rfl (Nat.le_of_ble_eq_true rfl) c_X7_fails ?_
                    refine T_iret dX7_copy_149 rfl ?_
                    rw [eA, eS, eF]; exact ⟨_, rfl, rfl, (hH.cong (fun q h1 h2 => by rw [uI_p (by omega), uI_p (by omega)])), FN_0 (FN_0 FN_r), uI_s⟩
                  · obtain ⟨n1, hn1, rfl⟩ := nI_of hw
                    refine T_ald0 dX7_copy_21 ?_
                    refine T_getR (q := 38) dX7_copy_22 lf_X7_9 rfl rfl rfl ?_
                    refine T_ild1 dX7_copy_25 ?_
                    refine T_ialdN dX7_copy_26 rfl (by show _ < 4; omega) hs1 ?_
                    refine T_bipush (v := -9) dX7_copy_27 (by decide) ?_
                    refine T_ceq (tgt := 43) dX7_copy_29 (by decide) (fun h29 => by exact absurd h29 (nI_m9 (by omega))) (fun h29 => ?_)
                    refine T_ald0 dX7_copy_32 ?_
                    refine T_getR (q := 38) dX7_copy_33 lf_X7_9 rfl rfl rfl ?_
                    refine T_ild3 dX7_copy_36 ?_
                    refine T_ialdN dX7_copy_37 rfl (by show _ < 4; omega) hs2 ?_
                    refine T_bipush (v := -9) dX7_copy_38 (by decide) ?_
                    refine T_cne (tgt := 49) dX7_copy_40 (by decide) (fun h40 => ?_) (fun h40 => by exact absurd h40 (nI_m9 (by omega)))
                    refine T_ald0 dX7_copy_49 ?_
                    refine T_getR (q := 38) dX7_copy_50 lf_X7_9 rfl rfl rfl ?_
                    refine T_ild1 dX7_copy_53 ?_
                    refine T_ialdN dX7_copy_54 rfl (by show _ < 4; omega) hs1 ?_
                    refine T_ald0 dX7_copy_55 ?_
                    refine T_getR (q := 38) dX7_copy_56 lf_X7_9 rfl rfl rfl ?_
                    refine T_ild3 dX7_copy_59 ?_
                    refine T_ialdN dX7_copy_60 rfl (by show _ < 4; omega) hs2 ?_
                    refine T_ceqN (tgt := 70) dX7_copy_61 (by decide) (by omega) (by omega) (fun h61 => ?_) (fun h61 => by exact absurd hll h61)
                    refine T_ild2 dX7_copy_70 ?_
                    refine T_ifltN (tgt := 109) dX7_copy_71 (by decide) (by omega) ?_
                    refine T_ild4 dX7_copy_74 ?_
                    refine T_ifltN (tgt := 109) dX7_copy_76 (by decide) (by omega) ?_
                    refine T_ild5 dX7_copy_79 ?_
                    refine T_ifltN (tgt := 109) dX7_copy_81 (by decide) (by omega) ?_
                    refine T_ild2 dX7_copy_84 ?_
                    refine T_ald0 dX7_copy_85 ?_
                    refine T_getR (q := 39) dX7_copy_86 lf_X7_13 rfl rfl rfl ?_
                    refine T_ild1 dX7_copy_89 ?_
                    refine T_ialdN dX7_copy_90 rfl (by show _ < 4; omega) hln1 ?_
                    refine T_cgtN (tgt := 109) dX7_copy_91 (by decide) (by omega) (by omega) (fun h91 => ?_) (fun h91 => ?_)
                    · refine T_iconst (v := bI false) dX7_copy_109 (by decide) ?_
                      refine T_ist6 dX7_copy_110 (by decide) rfl ?_
                      refine T_ild6 dX7_copy_112 ?_
                      refine T_ifeqB (tgt := 144) dX7_copy_114 (by decide) (fun h114 => ?_) (fun h114 => by cases h114)
                      refine T_ald0 dX7_copy_144 ?_
                      refine T_iconst (v := nI 3) dX7_copy_145 (by decide) ?_
                      refine T_invV1i (M' := mX7_fails) dX7_copy_146 ml_X7_98 imX7_fails rfl (Nat.le_of_ble_eq_true rfl) rfl (Nat.le_of_ble_eq_true rfl) rfl (Nat.le_of_ble_eq_true rfl) c_X7_fails ?_
                      refine T_iret dX7_copy_149 rfl ?_
                      rw [eA, eS, eF]; exact ⟨_, rfl, rfl, (hH.cong (fun q h1 h2 => by rw [uI_p (by omega), uI_p (by omega)])), FN_0 (FN_0 FN_r), uI_s⟩
                    · refine T_ild4 dX7_copy_94 ?_
                      refine T_ald0 dX7_copy_96 ?_
                      refine T_getR (q := 39) dX7_copy_97 lf_X7_13 rfl rfl rfl ?_
                      refine T_ild3 dX7_copy_100 ?_
                      refine T_ialdN dX7_copy_101 rfl (by show _ < 4; omega) hln2 ?_
                      refine T_cgtN (tgt := 109) dX7_copy_102 (by decide) (by omega) (by omega) (fun h102 => ?_) (fun h102 => ?_)
                      · refine T_iconst (v := bI false) dX7_copy_109 (by decide) ?_
                        refine T_ist6 dX7_copy_110 (by decide) rfl ?_
                        refine T_ild6 dX7_copy_112 ?_
                        refine T_ifeqB (tgt := 144) dX7_copy_114 (by decide) (fun h114 => ?_) (fun h114 => by cases h114)
                        refine T_ald0 dX7_copy_144 ?_
                        refine T_iconst (v := nI 3) dX7_copy_145 (by decide) ?_
                        refine T_invV1i (M' := mX7_fails) dX7_copy_146 ml_X7_98 imX7_fails rfl (Nat.le_of_ble_eq_true rfl) rfl (Nat.le_of_ble_eq_true rfl) rfl (Nat.le_of_ble_eq_true rfl) c_X7_fails ?_
                        refine T_iret dX7_copy_149 rfl ?_
                        rw [eA, eS, eF]; exact ⟨_, rfl, rfl, (hH.cong (fun q h1 h2 => by rw [uI_p (by omega), uI_p (by omega)])), FN_0 (FN_0 FN_r), uI_s⟩
                      · refine T_iconst (v := bI true) dX7_copy_105 (by decide) ?_
                        refine T_goto (tgt := 110) dX7_copy_106 (by decide) ?_
                        refine T_ist6 dX7_copy_110 (by decide) rfl ?_
                        refine T_ild6 dX7_copy_112 ?_
                        refine T_ifeqB (tgt := 144) dX7_copy_114 (by decide) (fun h114 => by cases h114) (fun h114 => ?_)
                        refine T_ild5 dX7_copy_117 ?_
                        refine T_ald0 dX7_copy_119 ?_
                        refine T_getR (q := 39) dX7_copy_120 lf_X7_13 rfl rfl rfl ?_
                        refine T_ild1 dX7_copy_123 ?_
                        refine T_ialdN dX7_copy_124 rfl (by show _ < 4; omega) hln1 ?_
                        refine T_ild2 dX7_copy_125 ?_
                        refine T_isubN dX7_copy_126 (by omega) ?_
                        refine T_cgtN (tgt := 144) dX7_copy_127 (by decide) (by omega) (by omega) (fun h127 => ?_) (fun h127 => ?_)
                        · refine T_ald0 dX7_copy_144 ?_
                          refine T_iconst (v := nI 3) dX7_copy_145 (by decide) ?_
                          refine T_invV1i (M' := mX7_fails) dX7_copy_146 ml_X7_98 imX7_fails rfl (Nat.le_of_ble_eq_true rfl) rfl (Nat.le_of_ble_eq_true rfl) rfl (Nat.le_of_ble_eq_true rfl) c_X7_fails ?_
                          refine T_iret dX7_copy_149 rfl ?_
                          rw [eA, eS, eF]; exact ⟨_, rfl, rfl, (hH.cong (fun q h1 h2 => by rw [uI_p (by omega), uI_p (by omega)])), FN_0 (FN_0 FN_r), uI_s⟩
                        · refine T_ild5 dX7_copy_130 ?_
                          refine T_ald0 dX7_copy_132 ?_
                          refine T_getR (q := 39) dX7_copy_133 lf_X7_13 rfl rfl rfl ?_
                          refine T_ild3 dX7_copy_136 ?_
                          refine T_ialdN dX7_copy_137 rfl (by show _ < 4; omega) hln2 ?_
                          refine T_ild4 dX7_copy_138 ?_
                          refine T_isubN dX7_copy_140 (by omega) ?_
                          refine T_cleN (tgt := 150) dX7_copy_141 (by decide) (by omega) (by omega) (fun h141 => ?_) (fun h141 => ?_)
                          · exfalso; exact absurd hbb (by rw [hasB_i rfl rfl (show p1 + n1 ≤ h.2.2.1 j by omega), hasB_i rfl rfl (show p2 + n1 ≤ h.2.2.1 o by omega)]; decide)
                          · refine T_ald0 dX7_copy_144 ?_
                            refine T_iconst (v := nI 3) dX7_copy_145 (by decide) ?_
                            refine T_invV1i (M' := mX7_fails) dX7_copy_146 ml_X7_98 imX7_fails rfl (Nat.le_of_ble_eq_true rfl) rfl (Nat.le_of_ble_eq_true rfl) rfl (Nat.le_of_ble_eq_true rfl) c_X7_fails ?_
                            refine T_iret dX7_copy_149 rfl ?_
                            rw [eA, eS, eF]; exact ⟨_, rfl, rfl, (hH.cong (fun q h1 h2 => by rw [uI_p (by omega), uI_p (by omega)])), FN_0 (FN_0 FN_r), uI_s⟩
            | true =>
              obtain ⟨b1, b2⟩ := (Bool.and_eq_true _ _).mp hbb
              obtain ⟨p1, n1, rfl, rfl, hp1⟩ := hasB_t b1
              obtain ⟨p2, n2, rfl, en, hp2⟩ := hasB_t b2
              have en : n1 = n2 := nI_inj (by omega) (by omega) en
              subst en
              have i1 : ix (nI p1) = p1 := ix_n (by omega)
              have i2 : ix (nI p2) = p2 := ix_n (by omega)
              have i3 : ix (nI n1) = n1 := ix_n (by omega)
              by_cases hpp : p1 < p2
              · skip
                refine T_ald0 dX7_copy_21 ?_
                refine T_getR (q := 38) dX7_copy_22 lf_X7_9 rfl rfl rfl ?_
                refine T_ild1 dX7_copy_25 ?_
                refine T_ialdN dX7_copy_26 rfl (by show _ < 4; omega) hs1 ?_
                refine T_bipush (v := -9) dX7_copy_27 (by decide) ?_
                refine T_ceq (tgt := 43) dX7_copy_29 (by decide) (fun h29 => by exact absurd h29 (nI_m9 (by omega))) (fun h29 => ?_)
                refine T_ald0 dX7_copy_32 ?_
                refine T_getR (q := 38) dX7_copy_33 lf_X7_9 rfl rfl rfl ?_
                refine T_ild3 dX7_copy_36 ?_
                refine T_ialdN dX7_copy_37 rfl (by show _ < 4; omega) hs2 ?_
                refine T_bipush (v := -9) dX7_copy_38 (by decide) ?_
                refine T_cne (tgt := 49) dX7_copy_40 (by decide) (fun h40 => ?_) (fun h40 => by exact absurd h40 (nI_m9 (by omega)))
                refine T_ald0 dX7_copy_49 ?_
                refine T_getR (q := 38) dX7_copy_50 lf_X7_9 rfl rfl rfl ?_
                refine T_ild1 dX7_copy_53 ?_
                refine T_ialdN dX7_copy_54 rfl (by show _ < 4; omega) hs1 ?_
                refine T_ald0 dX7_copy_55 ?_
                refine T_getR (q := 38) dX7_copy_56 lf_X7_9 rfl rfl rfl ?_
                refine T_ild3 dX7_copy_59 ?_
                refine T_ialdN dX7_copy_60 rfl (by show _ < 4; omega) hs2 ?_
                refine T_ceqN (tgt := 70) dX7_copy_61 (by decide) (by omega) (by omega) (fun h61 => ?_) (fun h61 => by exact absurd hll h61)
                refine T_ild2 dX7_copy_70 ?_
                refine T_ifltN (tgt := 109) dX7_copy_71 (by decide) (by omega) ?_
                refine T_ild4 dX7_copy_74 ?_
                refine T_ifltN (tgt := 109) dX7_copy_76 (by decide) (by omega) ?_
                refine T_ild5 dX7_copy_79 ?_
                refine T_ifltN (tgt := 109) dX7_copy_81 (by decide) (by omega) ?_
                refine T_ild2 dX7_copy_84 ?_
                refine T_ald0 dX7_copy_85 ?_
                refine T_getR (q := 39) dX7_copy_86 lf_X7_13 rfl rfl rfl ?_
                refine T_ild1 dX7_copy_89 ?_
                refine T_ialdN dX7_copy_90 rfl (by show _ < 4; omega) hln1 ?_
                refine T_cgtN (tgt := 109) dX7_copy_91 (by decide) (by omega) (by omega) (fun h91 => by exfalso; omega) (fun h91 => ?_)
                refine T_ild4 dX7_copy_94 ?_
                refine T_ald0 dX7_copy_96 ?_
                refine T_getR (q := 39) dX7_copy_97 lf_X7_13 rfl rfl rfl ?_
                refine T_ild3 dX7_copy_100 ?_
                refine T_ialdN dX7_copy_101 rfl (by show _ < 4; omega) hln2 ?_
                refine T_cgtN (tgt := 109) dX7_copy_102 (by decide) (by omega) (by omega) (fun h102 => by exfalso; omega) (fun h102 => ?_)
                refine T_iconst (v := bI true) dX7_copy_105 (by decide) ?_
                refine T_goto (tgt := 110) dX7_copy_106 (by decide) ?_
                refine T_ist6 dX7_copy_110 (by decide) rfl ?_
                refine T_ild6 dX7_copy_112 ?_
                refine T_ifeqB (tgt := 144) dX7_copy_114 (by decide) (fun h114 => by cases h114) (fun h114 => ?_)
                refine T_ild5 dX7_copy_117 ?_
                refine T_ald0 dX7_copy_119 ?_
                refine T_getR (q := 39) dX7_copy_120 lf_X7_13 rfl rfl rfl ?_
                refine T_ild1 dX7_copy_123 ?_
                refine T_ialdN dX7_copy_124 rfl (by show _ < 4; omega) hln1 ?_
                refine T_ild2 dX7_copy_125 ?_
                refine T_isubN dX7_copy_126 (by omega) ?_
                refine T_cgtN (tgt := 144) dX7_copy_127 (by decide) (by omega) (by omega) (fun h127 => ?_) (fun h127 => ?_)
                · refine T_ald0 dX7_copy_144 ?_
                  refine T_iconst (v := nI 3) dX7_copy_145 (by decide) ?_
                  refine T_invV1i (M' := mX7_fails) dX7_copy_146 ml_X7_98 imX7_fails rfl (Nat.le_of_ble_eq_true rfl) rfl (Nat.le_of_ble_eq_true rfl) rfl (Nat.le_of_ble_eq_true rfl) c_X7_fails ?_
                  refine T_iret dX7_copy_149 rfl ?_
                  exfalso; omega
                · refine T_ild5 dX7_copy_130 ?_
                  refine T_ald0 dX7_copy_132 ?_
                  refine T_getR (q := 39) dX7_copy_133 lf_X7_13 rfl rfl rfl ?_
                  refine T_ild3 dX7_copy_136 ?_
                  refine T_ialdN dX7_copy_137 rfl (by show _ < 4; omega) hln2 ?_
                  refine T_ild4 dX7_copy_138 ?_
                  refine T_isubN dX7_copy_140 (by omega) ?_
                  refine T_cleN (tgt := 150) dX7_copy_141 (by decide) (by omega) (by omega) (fun h141 => ?_) (fun h141 => ?_)
                  · refine T_ild2 dX7_copy_150 ?_
                    refine T_ild4 dX7_copy_151 ?_
                    refine T_cgeN (tgt := 160) dX7_copy_153 (by decide) (by omega) (by omega) (fun h153 => by exfalso; omega) (fun h153 => ?_)
                    refine T_iconst (v := bI true) dX7_copy_156 (by decide) ?_
                    refine T_goto (tgt := 161) dX7_copy_157 (by decide) ?_
                    refine T_ist7 dX7_copy_161 (by decide) rfl ?_
                    refine T_iconst (v := nI 0) dX7_copy_163 (by decide) ?_
                    refine T_ist8 dX7_copy_164 (by decide) rfl ?_
                    have key : ∀ x6 x9, TT mX7_copy (d + 2) 166 [some (.ref 37), some (.int (nI j)), some (.int (nI p1)), some (.int (nI o)), some (.int (nI p2)), some (.int (nI n1)), x6, some (.int (bI true)), some (.int (nI 0)), x9] [] (cp (uI S 37 0 (nI 0)) (60 * o + p2) (60 * j + p1) (n1 - 0) (n1), L, R) (fun r σ' => ∃ S', σ' = (S', L, R) ∧ r = some (.int (aCopy h (nI j) (nI p1) (nI o) (nI p2) (nI n1))) ∧ SHM S' (sCopy h (nI j) (nI p1) (nI o) (nI p2) (nI n1)) ∧ FN S S' ∧ S' 37 0 = nI (fCopy h (nI j) (nI p1) (nI o) (nI p2) (nI n1))) := by
                      refine up_ind (P := fun t => ∀ x6 x9, TT mX7_copy (d + 2) 166 [some (.ref 37), some (.int (nI j)), some (.int (nI p1)), some (.int (nI o)), some (.int (nI p2)), some (.int (nI n1)), x6, some (.int (bI true)), some (.int (nI t)), x9] [] (cp (uI S 37 0 (nI 0)) (60 * o + p2) (60 * j + p1) (n1 - t) (n1), L, R) (fun r σ' => ∃ S', σ' = (S', L, R) ∧ r = some (.int (aCopy h (nI j) (nI p1) (nI o) (nI p2) (nI n1))) ∧ SHM S' (sCopy h (nI j) (nI p1) (nI o) (nI p2) (nI n1)) ∧ FN S S' ∧ S' 37 0 = nI (fCopy h (nI j) (nI p1) (nI o) (nI p2) (nI n1)))) n1 ?_ ?_
                      · intro x6 x9
                        refine T_ild8 dX7_copy_166 ?_
                        refine T_ild5 dX7_copy_168 ?_
                        refine T_cgeN (tgt := 227) dX7_copy_170 (by decide) (by omega) (by omega) (fun h170 => ?_) (fun h170 => by exfalso; omega)
                        refine T_ild5 dX7_copy_227 ?_
                        refine T_iret dX7_copy_229 rfl ?_
                        rw [Nat.sub_self]
                        rw [show aCopy h (nI j) (nI p1) (nI o) (nI p2) (nI n1) = nI n1 from (if_pos (by rw [h9, h16]; rfl)).trans ((if_pos (by rw [ij, io, hth1, hth2]; rfl)).trans ((if_pos (by rw [ij, io]; exact hll)).trans (if_pos (by rw [ij, io]; exact hbb)))), show sCopy h (nI j) (nI p1) (nI o) (nI p2) (nI n1) = (h.1, h.2.1, h.2.2.1, va_up h.2.2.2 o (va_cpy (h.2.2.2 j) (h.2.2.2 o) p1 p2 n1)) from (if_pos (by rw [ij, io, h9, h16, hth1, hth2, decide_eq_true hll, hbb]; rfl)).trans (by rw [ij, io, i1, i2, i3]), show fCopy h (nI j) (nI p1) (nI o) (nI p2) (nI n1) = 0 from (if_pos (by rw [h9, h16]; rfl)).trans ((if_pos (by rw [ij, io, hth1, hth2]; rfl)).trans ((if_pos (by rw [ij, io]; exact hll)).trans (if_pos (by rw [ij, io]; exact hbb))))]
                        refine ⟨_, rfl, rfl, fun k hk => ?_, ⟨fun q q1 q2 => ?_, fun k hk => ?_⟩, ?_⟩
                        · have q := hH k hk
                          rw [cp_p (r := 38) (by decide), cp_p (r := 39) (by decide), uI_p (a := 38) (by decide), uI_p (a := 39) (by decide)]
                          refine ⟨q.1, q.2.1, fun z hz => ?_⟩
                          by_cases e : k = o
                          · subst e
                            simp only [va_up, if_true]
                            unfold va_cpy
                            by_cases c : p2 ≤ z ∧ z < p2 + n1
                            · rw [if_pos c]
                              refine (if_pos ⟨rfl, by omega, by omega⟩).trans ?_
                              rw [uI_p (by decide), show 60 * j + p1 + (60 * k + z - (60 * k + p2)) = 60 * j + (p1 + (z - p2)) by omega]
                              exact hJc _ (by omega)
                            · rw [if_neg c, cp_o (by omega), uI_p (by decide)]; exact q.2.2 z hz
                          · simp only [va_up, if_neg e]
                            rw [cp_o (by omega), uI_p (by decide)]; exact q.2.2 z hz
                        · rw [cp_p (by omega), uI_p q1]
                        · rw [cp_p (by decide), uI_k hk]
                        · rw [cp_p (by decide), uI_s]
                      · intro t ht ih x6 x9
                        refine T_ild8 dX7_copy_166 ?_
                        refine T_ild5 dX7_copy_168 ?_
                        refine T_cgeN (tgt := 227) dX7_copy_170 (by decide) (by omega) (by omega) (fun h170 => by exfalso; omega) (fun h170 => ?_)
                        refine T_ild7 dX7_copy_173 ?_
                        refine T_ifeqB (tgt := 188) dX7_copy_175 (by decide) (fun h175 => by cases h175) (fun h175 => ?_)
                        refine T_ild5 dX7_copy_178 ?_
                        refine T_iconst (v := nI 1) dX7_copy_180 (by decide) ?_
                        refine T_isubN dX7_copy_181 (by omega) ?_
                        refine T_ild8 dX7_copy_182 ?_
                        refine T_isubN dX7_copy_184 (by omega) ?_
                        refine T_goto (tgt := 190) dX7_copy_185 (by decide) ?_
                        refine T_ist9 dX7_copy_190 (by decide) rfl ?_
                        refine T_ald0 dX7_copy_192 ?_
                        refine T_getR (q := 40) dX7_copy_193 lf_X7_16 rfl rfl rfl ?_
                        refine T_bipush (v := nI 60) dX7_copy_196 (by decide) ?_
                        refine T_ild3 dX7_copy_198 ?_
                        refine T_imulN dX7_copy_199 ?_
                        refine T_ild4 dX7_copy_200 ?_
                        refine T_iaddN dX7_copy_202 ?_
                        refine T_ild9 dX7_copy_203 ?_
                        refine T_iaddN dX7_copy_205 ?_
                        refine T_ald0 dX7_copy_206 ?_
                        refine T_getR (q := 40) dX7_copy_207 lf_X7_16 rfl rfl rfl ?_
                        refine T_bipush (v := nI 60) dX7_copy_210 (by decide) ?_
                        refine T_ild1 dX7_copy_212 ?_
                        refine T_imulN dX7_copy_213 ?_
                        refine T_ild2 dX7_copy_214 ?_
                        refine T_iaddN dX7_copy_215 ?_
                        refine T_ild9 dX7_copy_216 ?_
                        refine T_iaddN dX7_copy_218 ?_
                        refine T_iald dX7_copy_219 rfl (by show _ < 240; omega) rfl ?_
                        refine T_iast dX7_copy_220 rfl (by show _ < 240; omega) rfl ?_
                        refine T_inc8N dX7_copy_221 (by decide) rfl ?_
                        refine T_goto (tgt := 166) dX7_copy_224 (by decide) ?_
                        rw [cp_o (D := (60 * o + p2)) (s := (60 * j + p1)) (A := n1 - t) (B := n1) (k := 60 * j + p1 + (n1 - 1 - t)) (by omega)]
                        have e := cp_dn (S := (uI S 37 0 (nI 0))) (D := (60 * o + p2)) (s := (60 * j + p1)) (A := n1 - 1 - t) (B := n1) (by omega) rfl
                        rw [show n1 - 1 - t + 1 = n1 - t by omega] at e
                        rw [e]
                        rw [show n1 - (t + 1) = n1 - 1 - t by omega] at ih
                        exact ih _ _
                    have k2 := key (some (.int (bI true))) none
                    rw [Nat.sub_zero, cp_0] at k2
                    exact k2
                  · refine T_ald0 dX7_copy_144 ?_
                    refine T_iconst (v := nI 3) dX7_copy_145 (by decide) ?_
                    refine T_invV1i (M' := mX7_fails) dX7_copy_146 ml_X7_98 imX7_fails rfl (Nat.le_of_ble_eq_true rfl) rfl (Nat.le_of_ble_eq_true rfl) rfl (Nat.le_of_ble_eq_true rfl) c_X7_fails ?_
                    refine T_iret dX7_copy_149 rfl ?_
                    exfalso; omega
              · skip
                refine T_ald0 dX7_copy_21 ?_
                refine T_getR (q := 38) dX7_copy_22 lf_X7_9 rfl rfl rfl ?_
                refine T_ild1 dX7_copy_25 ?_
                refine T_ialdN dX7_copy_26 rfl (by show _ < 4; omega) hs1 ?_
                refine T_bipush (v := -9) dX7_copy_27 (by decide) ?_
                refine T_ceq (tgt := 43) dX7_copy_29 (by decide) (fun h29 => by exact absurd h29 (nI_m9 (by omega))) (fun h29 => ?_)
                refine T_ald0 dX7_copy_32 ?_
                refine T_getR (q := 38) dX7_copy_33 lf_X7_9 rfl rfl rfl ?_
                refine T_ild3 dX7_copy_36 ?_
                refine T_ialdN dX7_copy_37 rfl (by show _ < 4; omega) hs2 ?_
                refine T_bipush (v := -9) dX7_copy_38 (by decide) ?_
                refine T_cne (tgt := 49) dX7_copy_40 (by decide) (fun h40 => ?_) (fun h40 => by exact absurd h40 (nI_m9 (by omega)))
                refine T_ald0 dX7_copy_49 ?_
                refine T_getR (q := 38) dX7_copy_50 lf_X7_9 rfl rfl rfl ?_
                refine T_ild1 dX7_copy_53 ?_
                refine T_ialdN dX7_copy_54 rfl (by show _ < 4; omega) hs1 ?_
                refine T_ald0 dX7_copy_55 ?_
                refine T_getR (q := 38) dX7_copy_56 lf_X7_9 rfl rfl rfl ?_
                refine T_ild3 dX7_copy_59 ?_
                refine T_ialdN dX7_copy_60 rfl (by show _ < 4; omega) hs2 ?_
                refine T_ceqN (tgt := 70) dX7_copy_61 (by decide) (by omega) (by omega) (fun h61 => ?_) (fun h61 => by exact absurd hll h61)
                refine T_ild2 dX7_copy_70 ?_
                refine T_ifltN (tgt := 109) dX7_copy_71 (by decide) (by omega) ?_
                refine T_ild4 dX7_copy_74 ?_
                refine T_ifltN (tgt := 109) dX7_copy_76 (by decide) (by omega) ?_
                refine T_ild5 dX7_copy_79 ?_
                refine T_ifltN (tgt := 109) dX7_copy_81 (by decide) (by omega) ?_
                refine T_ild2 dX7_copy_84 ?_
                refine T_ald0 dX7_copy_85 ?_
                refine T_getR (q := 39) dX7_copy_86 lf_X7_13 rfl rfl rfl ?_
                refine T_ild1 dX7_copy_89 ?_
                refine T_ialdN dX7_copy_90 rfl (by show _ < 4; omega) hln1 ?_
                refine T_cgtN (tgt := 109) dX7_copy_91 (by decide) (by omega) (by omega) (fun h91 => by exfalso; omega) (fun h91 => ?_)
                refine T_ild4 dX7_copy_94 ?_
                refine T_ald0 dX7_copy_96 ?_
                refine T_getR (q := 39) dX7_copy_97 lf_X7_13 rfl rfl rfl ?_
                refine T_ild3 dX7_copy_100 ?_
                refine T_ialdN dX7_copy_101 rfl (by show _ < 4; omega) hln2 ?_
                refine T_cgtN (tgt := 109) dX7_copy_102 (by decide) (by omega) (by omega) (fun h102 => by exfalso; omega) (fun h102 => ?_)
                refine T_iconst (v := bI true) dX7_copy_105 (by decide) ?_
                refine T_goto (tgt := 110) dX7_copy_106 (by decide) ?_
                refine T_ist6 dX7_copy_110 (by decide) rfl ?_
                refine T_ild6 dX7_copy_112 ?_
                refine T_ifeqB (tgt := 144) dX7_copy_114 (by decide) (fun h114 => by cases h114) (fun h114 => ?_)
                refine T_ild5 dX7_copy_117 ?_
                refine T_ald0 dX7_copy_119 ?_
                refine T_getR (q := 39) dX7_copy_120 lf_X7_13 rfl rfl rfl ?_
                refine T_ild1 dX7_copy_123 ?_
                refine T_ialdN dX7_copy_124 rfl (by show _ < 4; omega) hln1 ?_
                refine T_ild2 dX7_copy_125 ?_
                refine T_isubN dX7_copy_126 (by omega) ?_
                refine T_cgtN (tgt := 144) dX7_copy_127 (by decide) (by omega) (by omega) (fun h127 => ?_) (fun h127 => ?_)
                · refine T_ald0 dX7_copy_144 ?_
                  refine T_iconst (v := nI 3) dX7_copy_145 (by decide) ?_
                  refine T_invV1i (M' := mX7_fails) dX7_copy_146 ml_X7_98 imX7_fails rfl (Nat.le_of_ble_eq_true rfl) rfl (Nat.le_of_ble_eq_true rfl) rfl (Nat.le_of_ble_eq_true rfl) c_X7_fails ?_
                  refine T_iret dX7_copy_149 rfl ?_
                  exfalso; omega
                · refine T_ild5 dX7_copy_130 ?_
                  refine T_ald0 dX7_copy_132 ?_
                  refine T_getR (q := 39) dX7_copy_133 lf_X7_13 rfl rfl rfl ?_
                  refine T_ild3 dX7_copy_136 ?_
                  refine T_ialdN dX7_copy_137 rfl (by show _ < 4; omega) hln2 ?_
                  refine T_ild4 dX7_copy_138 ?_
                  refine T_isubN dX7_copy_140 (by omega) ?_
                  refine T_cleN (tgt := 150) dX7_copy_141 (by decide) (by omega) (by omega) (fun h141 => ?_) (fun h141 => ?_)
                  · refine T_ild2 dX7_copy_150 ?_
                    refine T_ild4 dX7_copy_151 ?_
                    refine T_cgeN (tgt := 160) dX7_copy_153 (by decide) (by omega) (by omega) (fun h153 => ?_) (fun h153 => by exfalso; omega)
                    refine T_iconst (v := bI false) dX7_copy_160 (by decide) ?_
                    refine T_ist7 dX7_copy_161 (by decide) rfl ?_
                    refine T_iconst (v := nI 0) dX7_copy_163 (by decide) ?_
                    refine T_ist8 dX7_copy_164 (by decide) rfl ?_
                    have key : ∀ x6 x9, TT mX7_copy (d + 2) 166 [some (.ref 37), some (.int (nI j)), some (.int (nI p1)), some (.int (nI o)), some (.int (nI p2)), some (.int (nI n1)), x6, some (.int (bI false)), some (.int (nI 0)), x9] [] (cp (uI S 37 0 (nI 0)) (60 * o + p2) (60 * j + p1) (0) (0), L, R) (fun r σ' => ∃ S', σ' = (S', L, R) ∧ r = some (.int (aCopy h (nI j) (nI p1) (nI o) (nI p2) (nI n1))) ∧ SHM S' (sCopy h (nI j) (nI p1) (nI o) (nI p2) (nI n1)) ∧ FN S S' ∧ S' 37 0 = nI (fCopy h (nI j) (nI p1) (nI o) (nI p2) (nI n1))) := by
                      refine up_ind (P := fun t => ∀ x6 x9, TT mX7_copy (d + 2) 166 [some (.ref 37), some (.int (nI j)), some (.int (nI p1)), some (.int (nI o)), some (.int (nI p2)), some (.int (nI n1)), x6, some (.int (bI false)), some (.int (nI t)), x9] [] (cp (uI S 37 0 (nI 0)) (60 * o + p2) (60 * j + p1) (0) (t), L, R) (fun r σ' => ∃ S', σ' = (S', L, R) ∧ r = some (.int (aCopy h (nI j) (nI p1) (nI o) (nI p2) (nI n1))) ∧ SHM S' (sCopy h (nI j) (nI p1) (nI o) (nI p2) (nI n1)) ∧ FN S S' ∧ S' 37 0 = nI (fCopy h (nI j) (nI p1) (nI o) (nI p2) (nI n1)))) n1 ?_ ?_
                      · intro x6 x9
                        refine T_ild8 dX7_copy_166 ?_
                        refine T_ild5 dX7_copy_168 ?_
                        refine T_cgeN (tgt := 227) dX7_copy_170 (by decide) (by omega) (by omega) (fun h170 => ?_) (fun h170 => by exfalso; omega)
                        refine T_ild5 dX7_copy_227 ?_
                        refine T_iret dX7_copy_229 rfl ?_
                        rw [show aCopy h (nI j) (nI p1) (nI o) (nI p2) (nI n1) = nI n1 from (if_pos (by rw [h9, h16]; rfl)).trans ((if_pos (by rw [ij, io, hth1, hth2]; rfl)).trans ((if_pos (by rw [ij, io]; exact hll)).trans (if_pos (by rw [ij, io]; exact hbb)))), show sCopy h (nI j) (nI p1) (nI o) (nI p2) (nI n1) = (h.1, h.2.1, h.2.2.1, va_up h.2.2.2 o (va_cpy (h.2.2.2 j) (h.2.2.2 o) p1 p2 n1)) from (if_pos (by rw [ij, io, h9, h16, hth1, hth2, decide_eq_true hll, hbb]; rfl)).trans (by rw [ij, io, i1, i2, i3]), show fCopy h (nI j) (nI p1) (nI o) (nI p2) (nI n1) = 0 from (if_pos (by rw [h9, h16]; rfl)).trans ((if_pos (by rw [ij, io, hth1, hth2]; rfl)).trans ((if_pos (by rw [ij, io]; exact hll)).trans (if_pos (by rw [ij, io]; exact hbb))))]
                        refine ⟨_, rfl, rfl, fun k hk => ?_, ⟨fun q q1 q2 => ?_, fun k hk => ?_⟩, ?_⟩
                        · have q := hH k hk
                          rw [cp_p (r := 38) (by decide), cp_p (r := 39) (by decide), uI_p (a := 38) (by decide), uI_p (a := 39) (by decide)]
                          refine ⟨q.1, q.2.1, fun z hz => ?_⟩
                          by_cases e : k = o
                          · subst e
                            simp only [va_up, if_true]
                            unfold va_cpy
                            by_cases c : p2 ≤ z ∧ z < p2 + n1
                            · rw [if_pos c]
                              refine (if_pos ⟨rfl, by omega, by omega⟩).trans ?_
                              rw [uI_p (by decide), show 60 * j + p1 + (60 * k + z - (60 * k + p2)) = 60 * j + (p1 + (z - p2)) by omega]
                              exact hJc _ (by omega)
                            · rw [if_neg c, cp_o (by omega), uI_p (by decide)]; exact q.2.2 z hz
                          · simp only [va_up, if_neg e]
                            rw [cp_o (by omega), uI_p (by decide)]; exact q.2.2 z hz
                        · rw [cp_p (by omega), uI_p q1]
                        · rw [cp_p (by decide), uI_k hk]
                        · rw [cp_p (by decide), uI_s]
                      · intro t ht ih x6 x9
                        refine T_ild8 dX7_copy_166 ?_
                        refine T_ild5 dX7_copy_168 ?_
                        refine T_cgeN (tgt := 227) dX7_copy_170 (by decide) (by omega) (by omega) (fun h170 => by exfalso; omega) (fun h170 => ?_)
                        refine T_ild7 dX7_copy_173 ?_
                        refine T_ifeqB (tgt := 188) dX7_copy_175 (by decide) (fun h175 => ?_) (fun h175 => by cases h175)
                        refine T_ild8 dX7_copy_188 ?_
                        refine T_ist9 dX7_copy_190 (by decide) rfl ?_
                        refine T_ald0 dX7_copy_192 ?_
                        refine T_getR (q := 40) dX7_copy_193 lf_X7_16 rfl rfl rfl ?_
                        refine T_bipush (v := nI 60) dX7_copy_196 (by decide) ?_
                        refine T_ild3 dX7_copy_198 ?_
                        refine T_imulN dX7_copy_199 ?_
                        refine T_ild4 dX7_copy_200 ?_
                        refine T_iaddN dX7_copy_202 ?_
                        refine T_ild9 dX7_copy_203 ?_
                        refine T_iaddN dX7_copy_205 ?_
                        refine T_ald0 dX7_copy_206 ?_
                        refine T_getR (q := 40) dX7_copy_207 lf_X7_16 rfl rfl rfl ?_
                        refine T_bipush (v := nI 60) dX7_copy_210 (by decide) ?_
                        refine T_ild1 dX7_copy_212 ?_
                        refine T_imulN dX7_copy_213 ?_
                        refine T_ild2 dX7_copy_214 ?_
                        refine T_iaddN dX7_copy_215 ?_
                        refine T_ild9 dX7_copy_216 ?_
                        refine T_iaddN dX7_copy_218 ?_
                        refine T_iald dX7_copy_219 rfl (by show _ < 240; omega) rfl ?_
                        refine T_iast dX7_copy_220 rfl (by show _ < 240; omega) rfl ?_
                        refine T_inc8N dX7_copy_221 (by decide) rfl ?_
                        refine T_goto (tgt := 166) dX7_copy_224 (by decide) ?_
                        rw [cp_o (D := (60 * o + p2)) (s := (60 * j + p1)) (A := 0) (B := t) (k := 60 * j + p1 + t) (by omega), cp_up (Nat.zero_le _) rfl]; exact ih _ _
                    have k2 := key (some (.int (bI true))) none
                    rw [cp_0] at k2
                    exact k2
                  · refine T_ald0 dX7_copy_144 ?_
                    refine T_iconst (v := nI 3) dX7_copy_145 (by decide) ?_
                    refine T_invV1i (M' := mX7_fails) dX7_copy_146 ml_X7_98 imX7_fails rfl (Nat.le_of_ble_eq_true rfl) rfl (Nat.le_of_ble_eq_true rfl) rfl (Nat.le_of_ble_eq_true rfl) c_X7_fails ?_
                    refine T_iret dX7_copy_149 rfl ?_
                    exfalso; omega
          · skip
            refine T_ald0 dX7_copy_21 ?_
            refine T_getR (q := 38) dX7_copy_22 lf_X7_9 rfl rfl rfl ?_
            refine T_ild1 dX7_copy_25 ?_
            refine T_ialdN dX7_copy_26 rfl (by show _ < 4; omega) hs1 ?_
            refine T_bipush (v := -9) dX7_copy_27 (by decide) ?_
            refine T_ceq (tgt := 43) dX7_copy_29 (by decide) (fun h29 => by exact absurd h29 (nI_m9 (by omega))) (fun h29 => ?_)
            refine T_ald0 dX7_copy_32 ?_
            refine T_getR (q := 38) dX7_copy_33 lf_X7_9 rfl rfl rfl ?_
            refine T_ild3 dX7_copy_36 ?_
            refine T_ialdN dX7_copy_37 rfl (by show _ < 4; omega) hs2 ?_
            refine T_bipush (v := -9) dX7_copy_38 (by decide) ?_
            refine T_cne (tgt := 49) dX7_copy_40 (by decide) (fun h40 => ?_) (fun h40 => by exact absurd h40 (nI_m9 (by omega)))
            refine T_ald0 dX7_copy_49 ?_
            refine T_getR (q := 38) dX7_copy_50 lf_X7_9 rfl rfl rfl ?_
            refine T_ild1 dX7_copy_53 ?_
            refine T_ialdN dX7_copy_54 rfl (by show _ < 4; omega) hs1 ?_
            refine T_ald0 dX7_copy_55 ?_
            refine T_getR (q := 38) dX7_copy_56 lf_X7_9 rfl rfl rfl ?_
            refine T_ild3 dX7_copy_59 ?_
            refine T_ialdN dX7_copy_60 rfl (by show _ < 4; omega) hs2 ?_
            refine T_ceqN (tgt := 70) dX7_copy_61 (by decide) (by omega) (by omega) (fun h61 => by exact absurd h61 hll) (fun h61 => ?_)
            refine T_ald0 dX7_copy_64 ?_
            refine T_iconst (v := nI 2) dX7_copy_65 (by decide) ?_
            refine T_invV1i (M' := mX7_fails) dX7_copy_66 ml_X7_98 imX7_fails rfl (Nat.le_of_ble_eq_true rfl) rfl (Nat.le_of_ble_eq_true rfl) rfl (Nat.le_of_ble_eq_true rfl) c_X7_fails ?_
            refine T_iret dX7_copy_69 rfl ?_
            rw [show aCopy h (nI j) y (nI o) z w = -10 - nI 2 from (if_pos (by rw [h9, h16]; rfl)).trans ((if_pos (by rw [ij, io, hth1, hth2]; rfl)).trans (if_neg (by rw [ij, io]; exact hll))), show sCopy h (nI j) y (nI o) z w = h from if_neg (by rw [ij, io]; simp [hll]), show fCopy h (nI j) y (nI o) z w = 2 from (if_pos (by rw [h9, h16]; rfl)).trans ((if_pos (by rw [ij, io, hth1, hth2]; rfl)).trans (if_neg (by rw [ij, io]; exact hll)))]; exact ⟨_, rfl, rfl, (hH.cong (fun q h1 h2 => by rw [uI_p (by omega), uI_p (by omega)])), FN_0 (FN_0 FN_r), uI_s⟩
    · refine T_iconst (v := -1) dX7_copy_19 (by decide) ?_
      refine T_iret dX7_copy_20 rfl ?_
      rw [show aCopy h x y u z w = -1 from if_neg (by first | (simp [h9]; done) | simp [h9, h16]), show sCopy h x y u z w = h from if_neg (by first | (simp [h9]; done) | simp [h9, h16]), show fCopy h x y u z w = 0 from if_neg (by first | (simp [h9]; done) | simp [h9, h16])]; exact ⟨_, rfl, rfl, hH.cong (fun q h1 h2 => uI_p (by omega)), FN_0 FN_r, uI_s⟩
