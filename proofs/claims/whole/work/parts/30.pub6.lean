/-! dinner, table of the class -/
def asked (w : Int32) : Bool := blw w 6 || (blw w 16 && !blw w 10)
def ansD (a : Nat → Nat → Nat) (rq : Nat → Nat) (n : Nat) (w : Int32) : Int32 := match dinB a rq n with
  | none => if w = nI 1 then nI (dinW a rq n) else -100 - nI (dinW a rq n)
  | some b => if w = nI 1 then -9 else if w = nI 0 then nI (dinM a rq n) else if w = nI 2 then nI (land a 0 b) else if w = nI 3 then nI (land a 1 b) else if w = nI 4 then nI (b / 8) else if w = nI 5 then nI (b % 8) else if blw (w - nI 10) (a 1 0) then who (a 0 0) (a 8 (ix (w - nI 10))) (b / 8) (b % 8) else -9
def rqH (h : HS) (x i : Int32) : Nat → Nat := fun k => ix (h.2.2.2 (ix x) (ix i + k))
def okH (h : HS) (x i n : Int32) : Bool := allN (fun k => blw (h.2.2.2 (ix x) (ix i + k)) 4) (ix n)
noncomputable def aDinner (a : Nat → Nat → Nat) (h : HS) (x l i n w : Int32) : Int32 := if blw x 4 then (if blw l 3 && blw n 41 && asked w then (if fC h x l i n ≠ 0 then -10 - nI (fC h x l i n) else if a 0 0 = 0 then -3 else if okH h x i n then ansD a (rqH h x i) (ix n) w else -2) else -2) else -1
noncomputable def fDinner (h : HS) (x l i n w : Int32) : Nat := if blw x 4 && (blw l 3 && blw n 41 && asked w) then fC h x l i n else 0
theorem allN_all {f : Nat → Bool} : ∀ {n : Nat}, allN f n = true → ∀ k, k < n → f k = true
  | 0, _, k, hk => absurd hk (Nat.not_lt_zero k)
  | n + 1, h, k, hk => by
    have h : (allN f n && f n) = true := h
    rw [Bool.and_eq_true] at h
    by_cases e : k = n
    · rw [e]; exact h.2
    · exact allN_all h.1 k (by omega)
theorem asked_k {k : Nat} (hk : k < 2 ^ 31) : asked (nI k) = decide (k < 6 ∨ (10 ≤ k ∧ k < 16)) := by
  unfold asked
  rw [blw_d hk (by decide), blw_d hk (by decide), blw_d hk (by decide)]
  by_cases h1 : k < 6
  · simp [h1]
  · by_cases h2 : k < 16
    · by_cases h3 : k < 10
      · simp [h1, h2, h3] <;> omega
      · simp [h1, h2, h3] <;> omega
    · simp [h1, h2] <;> omega
set_option maxRecDepth 20000 in
theorem c_X6_isAskedOfDinner {S : Nat → Nat → Int32} {L : Nat → Nat → Int64} {R : Nat × Nat × Nat} {d : Nat} {x : Int32} : TT mX6_isAskedOfDinner (d + 1) 0 [some (.int (x))] [] (S, L, R) (rt (some (.int (bI (asked x)))) (S, L, R)) := by
  by_cases hx : x < 0
  · skip
    refine T_ild0 dX6_isAskedOfDinner_0 ?_
    refine T_bipush (v := nI 6) dX6_isAskedOfDinner_1 (by decide) ?_
    refine T_invS2i (M' := mX6_isBelow) dX6_isAskedOfDinner_3 ml_X6_64 imX6_isBelow (Nat.le_of_ble_eq_true rfl) rfl (Nat.le_of_ble_eq_true rfl) (c_X6_isBelow (by omega)) ?_
    refine T_ifneB (tgt := 21) dX6_isAskedOfDinner_6 (by decide) (fun h6 => by rw [neg_2 (by decide) hx] at h6; cases h6) (fun h6 => ?_)
    refine T_ild0 dX6_isAskedOfDinner_9 ?_
    refine T_bipush (v := nI 10) dX6_isAskedOfDinner_10 (by decide) ?_
    refine T_clt (tgt := 25) dX6_isAskedOfDinner_12 (by decide) (fun h12 => ?_) (fun h12 => by exact absurd (Int32.lt_iff_toInt_lt.mpr (by have := Int32.lt_iff_toInt_lt.mp hx; have e0 : (0 : Int32).toInt = 0 := rfl; have e1 : (nI 10).toInt = 10 := rfl; omega)) h12)
    refine T_iconst (v := bI false) dX6_isAskedOfDinner_25 (by decide) ?_
    refine T_bretB dX6_isAskedOfDinner_26 rfl ?_
    rw [show asked x = false by unfold asked; rw [neg_2 (by decide) hx, neg_2 (by decide) hx]; rfl]; exact rt_i
  · obtain ⟨k, hk, rfl⟩ := nI_of hx
    refine T_ild0 dX6_isAskedOfDinner_0 ?_
    refine T_bipush (v := nI 6) dX6_isAskedOfDinner_1 (by decide) ?_
    refine T_invS2i (M' := mX6_isBelow) dX6_isAskedOfDinner_3 ml_X6_64 imX6_isBelow (Nat.le_of_ble_eq_true rfl) rfl (Nat.le_of_ble_eq_true rfl) (c_X6_isBelow (by omega)) ?_
    refine T_ifneB (tgt := 21) dX6_isAskedOfDinner_6 (by decide) (fun h6 => ?_) (fun h6 => ?_)
    · 
      refine T_iconst (v := bI true) dX6_isAskedOfDinner_21 (by decide) ?_
      refine T_goto (tgt := 26) dX6_isAskedOfDinner_22 (by decide) ?_
      refine T_bretB dX6_isAskedOfDinner_26 rfl ?_
      rw [asked_k hk]
      first
        | (rw [decide_eq_true (by first | omega | (rw [blw_d hk (by decide)] at h6; exact Or.inl (of_decide_eq_true h6)))]; exact rt_i)
        | (rw [decide_eq_false (by omega)]; exact rt_i)
    · rw [blw_d hk (by decide)] at h6
      have h6 := of_decide_eq_false h6
      refine T_ild0 dX6_isAskedOfDinner_9 ?_
      refine T_bipush (v := nI 10) dX6_isAskedOfDinner_10 (by decide) ?_
      refine T_cltN (tgt := 25) dX6_isAskedOfDinner_12 (by decide) (by omega) (by omega) (fun h12 => ?_) (fun h12 => ?_)
      · refine T_iconst (v := bI false) dX6_isAskedOfDinner_25 (by decide) ?_
        refine T_bretB dX6_isAskedOfDinner_26 rfl ?_
        rw [asked_k hk]
        first
          | (rw [decide_eq_true (by first | omega | (rw [blw_d hk (by decide)] at h6; exact Or.inl (of_decide_eq_true h6)))]; exact rt_i)
          | (rw [decide_eq_false (by omega)]; exact rt_i)
      · refine T_ild0 dX6_isAskedOfDinner_15 ?_
        refine T_bipush (v := nI 16) dX6_isAskedOfDinner_16 (by decide) ?_
        refine T_cgeN (tgt := 25) dX6_isAskedOfDinner_18 (by decide) (by omega) (by omega) (fun h18 => ?_) (fun h18 => ?_)
        · refine T_iconst (v := bI false) dX6_isAskedOfDinner_25 (by decide) ?_
          refine T_bretB dX6_isAskedOfDinner_26 rfl ?_
          rw [asked_k hk]
          first
            | (rw [decide_eq_true (by first | omega | (rw [blw_d hk (by decide)] at h6; exact Or.inl (of_decide_eq_true h6)))]; exact rt_i)
            | (rw [decide_eq_false (by omega)]; exact rt_i)
        · 
          refine T_iconst (v := bI true) dX6_isAskedOfDinner_21 (by decide) ?_
          refine T_goto (tgt := 26) dX6_isAskedOfDinner_22 (by decide) ?_
          refine T_bretB dX6_isAskedOfDinner_26 rfl ?_
          rw [asked_k hk]
          first
            | (rw [decide_eq_true (by first | omega | (rw [blw_d hk (by decide)] at h6; exact Or.inl (of_decide_eq_true h6)))]; exact rt_i)
            | (rw [decide_eq_false (by omega)]; exact rt_i)
theorem dinW_le {a : Nat → Nat → Nat} {rq : Nat → Nat} : ∀ n, dinW a rq n ≤ n
  | 0 => Nat.le_refl _
  | n + 1 => by
    have := dinW_le (a := a) (rq := rq) n
    show (match dinB a rq n with | none => dinW a rq n | some _ => n) ≤ n + 1
    split <;> omega
set_option maxRecDepth 20000 in
theorem c_X6_answerOfDinner {S : Nat → Nat → Int32} {L : Nat → Nat → Int64} {nw sp cd : Nat} {d : Nat} (hnw : nw = 19 ∨ nw = 28) {a : Nat → Nat → Nat} (hV : TV S nw a) (hW : WL a) {rq : Nat → Nat} {n : Nat} (hSV : SV a rq n S) (hn : n ≤ 40) {w : Int32} : TT mX6_answerOfDinner (d + 3) 0 [some (.ref 0), some (.int (w)), none] [] (S, L, (nw, sp, cd)) (rt (some (.int (ansD a rq n w))) (S, L, (nw, sp, cd))) := by
  obtain ⟨hg, hdn, hso, hbd, hrn, hgu, hdi, hre⟩ := id hV
  obtain ⟨w3, w8, wd1, wd6, wso, wb, wbs, wbp, wne, wrn, wgu, wdi, wre⟩ := id hW
  cases hd : dinB a rq n with
  | none =>
    refine T_ild1 dX6_answerOfDinner_0 ?_
    refine T_iconst (v := nI 1) dX6_answerOfDinner_1 (by decide) ?_
    refine T_cne (tgt := 13) dX6_answerOfDinner_2 (by decide) (fun h2 => ?_) (fun h2 => ?_)
    · refine T_ald0 dX6_answerOfDinner_13 ?_
      refine T_getR (q := 12) dX6_answerOfDinner_14 lf_X6_27 rfl rfl rfl ?_
      refine T_getN dX6_answerOfDinner_17 lf_X6_154 rfl rfl (hSV.2 hd) ?_
      refine T_bipush (v := -9) dX6_answerOfDinner_20 (by decide) ?_
      refine T_ceq (tgt := 36) dX6_answerOfDinner_22 (by decide) (fun h22 => by exact absurd h22 (nI_m9 (by have := dinW_le (a := a) (rq := rq) n; omega))) (fun h22 => ?_)
      refine T_bipush (v := -100) dX6_answerOfDinner_25 (by decide) ?_
      refine T_ald0 dX6_answerOfDinner_27 ?_
      refine T_getR (q := 12) dX6_answerOfDinner_28 lf_X6_27 rfl rfl rfl ?_
      refine T_getN dX6_answerOfDinner_31 lf_X6_154 rfl rfl (hSV.2 hd) ?_
      refine T_isub dX6_answerOfDinner_34 ?_
      refine T_iret dX6_answerOfDinner_35 rfl ?_
      rw [show ansD a rq n w = -100 - nI (dinW a rq n) by unfold ansD; rw [hd]; exact if_neg h2]; exact rt_i
    · refine T_ald0 dX6_answerOfDinner_5 ?_
      refine T_getR (q := 12) dX6_answerOfDinner_6 lf_X6_27 rfl rfl rfl ?_
      refine T_getN dX6_answerOfDinner_9 lf_X6_154 rfl rfl (hSV.2 hd) ?_
      refine T_iret dX6_answerOfDinner_12 rfl ?_
      rw [show ansD a rq n w = nI (dinW a rq n) by unfold ansD; rw [hd]; exact if_pos h2]; exact rt_i
  | some b =>
    have hs := hSV.1 b hd
    have hb := dinB_ok hW hd
    refine T_ild1 dX6_answerOfDinner_0 ?_
    refine T_iconst (v := nI 1) dX6_answerOfDinner_1 (by decide) ?_
    refine T_cne (tgt := 13) dX6_answerOfDinner_2 (by decide) (fun h2 => ?_) (fun h2 => ?_)
    · refine T_ald0 dX6_answerOfDinner_13 ?_
      refine T_getR (q := 12) dX6_answerOfDinner_14 lf_X6_27 rfl rfl rfl ?_
      refine T_getV dX6_answerOfDinner_17 lf_X6_154 rfl rfl hs.2.2 ?_
      refine T_bipush (v := -9) dX6_answerOfDinner_20 (by decide) ?_
      refine T_ceq (tgt := 36) dX6_answerOfDinner_22 (by decide) (fun h22 => ?_) (fun h22 => by exact absurd rfl h22)
      refine T_ild1 dX6_answerOfDinner_36 ?_
      refine T_sw (a := 0) [76, 138, 84, 100, 116, 127] 138 dX6_answerOfDinner_37 (by decide) (by decide) (by decide) (by decide) (fun j hj e37 => ?_) (fun e37 => ?_)
      · match j, hj, e37 with
        | 0, _, e37 =>
          refine T_ald0 dX6_answerOfDinner_76 ?_
          refine T_getR (q := 12) dX6_answerOfDinner_77 lf_X6_27 rfl rfl rfl ?_
          refine T_getN dX6_answerOfDinner_80 lf_X6_157 rfl rfl hs.2.1 ?_
          refine T_iret dX6_answerOfDinner_83 rfl ?_
          rw [show ansD a rq n w = nI (dinM a rq n) by unfold ansD; rw [hd]; exact (if_neg h2).trans ((if_pos e37))]; exact rt_i
        | 1, _, e37 =>
          refine T_ild1 dX6_answerOfDinner_138 ?_
          refine T_bipush (v := nI 10) dX6_answerOfDinner_139 (by decide) ?_
          refine T_isub dX6_answerOfDinner_141 ?_
          refine T_ist2 dX6_answerOfDinner_142 (by decide) rfl ?_
          refine T_ild2 dX6_answerOfDinner_143 ?_
          refine T_ald0 dX6_answerOfDinner_144 ?_
          refine T_getR (q := nw) dX6_answerOfDinner_145 lf_X6_48 rfl rfl rfl ?_
          refine T_getN dX6_answerOfDinner_148 lf_X6_106 (kT hnw) rfl hdn ?_
          refine T_invS2i (M' := mX6_isBelow) dX6_answerOfDinner_151 ml_X6_64 imX6_isBelow (Nat.le_of_ble_eq_true rfl) rfl (Nat.le_of_ble_eq_true rfl) (c_X6_isBelow (by omega)) ?_
          refine T_ifeqB (tgt := 175) dX6_answerOfDinner_154 (by decide) (fun h154 => ?_) (fun h154 => ?_)
          · refine T_bipush (v := -9) dX6_answerOfDinner_175 (by decide) ?_
            refine T_iret dX6_answerOfDinner_177 rfl ?_
            first
              | exact absurd e37 h2
              | (rw [show ansD a rq n w = -9 by unfold ansD; rw [hd]; exact (if_neg h2).trans ((if_neg (e37 0 (by decide))).trans ((if_neg (e37 2 (by decide))).trans ((if_neg (e37 3 (by decide))).trans ((if_neg (e37 4 (by decide))).trans ((if_neg (e37 5 (by decide))).trans (if_neg (by simp [h154])))))))]; exact rt_i)
              | (rw [show ansD a rq n w = who (a 0 0) (a 8 e) (b / 8) (b % 8) by unfold ansD; rw [hd]; exact (if_neg h2).trans ((if_neg (e37 0 (by decide))).trans ((if_neg (e37 2 (by decide))).trans ((if_neg (e37 3 (by decide))).trans ((if_neg (e37 4 (by decide))).trans ((if_neg (e37 5 (by decide))).trans ((if_pos (by rw [hq]; exact h154)).trans (by rw [hq, ix_n (by omega)])))))))]; exact rt_i)
          · obtain ⟨e, he, hq⟩ := blw_t h154
            rw [hq] at h154
            rw [hq]
            refine T_ald0 dX6_answerOfDinner_157 ?_
            refine T_getR (q := nw) dX6_answerOfDinner_158 lf_X6_48 rfl rfl rfl ?_
            refine T_ild2 dX6_answerOfDinner_161 ?_
            refine T_ald0 dX6_answerOfDinner_162 ?_
            refine T_getR (q := 12) dX6_answerOfDinner_163 lf_X6_27 rfl rfl rfl ?_
            refine T_getN dX6_answerOfDinner_166 lf_X6_160 rfl rfl hs.1 ?_
            refine T_invV2i (M' := mX4_ownerOfDish) dX6_answerOfDinner_169 ml_X6_118 imX4_ownerOfDish (kT hnw) (Nat.le_of_ble_eq_true rfl) rfl (Nat.le_of_ble_eq_true rfl) rfl (Nat.le_of_ble_eq_true rfl) (c_X4_ownerOfDish hnw hV hW hb.1 hb.2.1 hb.2.2 he) ?_
            refine T_goto (tgt := 177) dX6_answerOfDinner_172 (by decide) ?_
            refine T_iret dX6_answerOfDinner_177 rfl ?_
            first
              | exact absurd e37 h2
              | (rw [show ansD a rq n w = -9 by unfold ansD; rw [hd]; exact (if_neg h2).trans ((if_neg (e37 0 (by decide))).trans ((if_neg (e37 2 (by decide))).trans ((if_neg (e37 3 (by decide))).trans ((if_neg (e37 4 (by decide))).trans ((if_neg (e37 5 (by decide))).trans (if_neg (by simp [h154])))))))]; exact rt_i)
              | (rw [show ansD a rq n w = who (a 0 0) (a 8 e) (b / 8) (b % 8) by unfold ansD; rw [hd]; exact (if_neg h2).trans ((if_neg (e37 0 (by decide))).trans ((if_neg (e37 2 (by decide))).trans ((if_neg (e37 3 (by decide))).trans ((if_neg (e37 4 (by decide))).trans ((if_neg (e37 5 (by decide))).trans ((if_pos (by rw [hq]; exact h154)).trans (by rw [hq, ix_n (by omega)])))))))]; exact rt_i)
        | 2, _, e37 =>
          refine T_ald0 dX6_answerOfDinner_84 ?_
          refine T_getR (q := nw) dX6_answerOfDinner_85 lf_X6_48 rfl rfl rfl ?_
          refine T_iconst (v := nI 0) dX6_answerOfDinner_88 (by decide) ?_
          refine T_ald0 dX6_answerOfDinner_89 ?_
          refine T_getR (q := 12) dX6_answerOfDinner_90 lf_X6_27 rfl rfl rfl ?_
          refine T_getN dX6_answerOfDinner_93 lf_X6_160 rfl rfl hs.1 ?_
          refine T_invV2i (M' := mX4_landOf) dX6_answerOfDinner_96 ml_X6_129 imX4_landOf (kT hnw) (Nat.le_of_ble_eq_true rfl) rfl (Nat.le_of_ble_eq_true rfl) rfl (Nat.le_of_ble_eq_true rfl) (c_X4_landOf hnw hV hW hb.1 hb.2.1 hb.2.2) ?_
          refine T_iret dX6_answerOfDinner_99 rfl ?_
          rw [show ansD a rq n w = nI (land a 0 b) by unfold ansD; rw [hd]; exact (if_neg h2).trans ((if_neg (by rw [e37]; decide)).trans ((if_pos e37)))]; exact rt_i
        | 3, _, e37 =>
          refine T_ald0 dX6_answerOfDinner_100 ?_
          refine T_getR (q := nw) dX6_answerOfDinner_101 lf_X6_48 rfl rfl rfl ?_
          refine T_iconst (v := nI 1) dX6_answerOfDinner_104 (by decide) ?_
          refine T_ald0 dX6_answerOfDinner_105 ?_
          refine T_getR (q := 12) dX6_answerOfDinner_106 lf_X6_27 rfl rfl rfl ?_
          refine T_getN dX6_answerOfDinner_109 lf_X6_160 rfl rfl hs.1 ?_
          refine T_invV2i (M' := mX4_landOf) dX6_answerOfDinner_112 ml_X6_129 imX4_landOf (kT hnw) (Nat.le_of_ble_eq_true rfl) rfl (Nat.le_of_ble_eq_true rfl) rfl (Nat.le_of_ble_eq_true rfl) (c_X4_landOf hnw hV hW hb.1 hb.2.1 hb.2.2) ?_
          refine T_iret dX6_answerOfDinner_115 rfl ?_
          rw [show ansD a rq n w = nI (land a 1 b) by unfold ansD; rw [hd]; exact (if_neg h2).trans ((if_neg (by rw [e37]; decide)).trans ((if_neg (by rw [e37]; decide)).trans ((if_pos e37))))]; exact rt_i
        | 4, _, e37 =>
          refine T_ald0 dX6_answerOfDinner_116 ?_
          refine T_getR (q := 12) dX6_answerOfDinner_117 lf_X6_27 rfl rfl rfl ?_
          refine T_getN dX6_answerOfDinner_120 lf_X6_160 rfl rfl hs.1 ?_
          refine T_invS1i (M' := mX6_saltOf) dX6_answerOfDinner_123 ml_X6_161 imX6_saltOf (Nat.le_of_ble_eq_true rfl) rfl (Nat.le_of_ble_eq_true rfl) (c_X6_saltOf (by omega)) ?_
          refine T_iret dX6_answerOfDinner_126 rfl ?_
          rw [show ansD a rq n w = nI (b / 8) by unfold ansD; rw [hd]; exact (if_neg h2).trans ((if_neg (by rw [e37]; decide)).trans ((if_neg (by rw [e37]; decide)).trans ((if_neg (by rw [e37]; decide)).trans ((if_pos e37)))))]; exact rt_i
        | 5, _, e37 =>
          refine T_ald0 dX6_answerOfDinner_127 ?_
          refine T_getR (q := 12) dX6_answerOfDinner_128 lf_X6_27 rfl rfl rfl ?_
          refine T_getN dX6_answerOfDinner_131 lf_X6_160 rfl rfl hs.1 ?_
          refine T_invS1i (M' := mX6_pepperOf) dX6_answerOfDinner_134 ml_X6_164 imX6_pepperOf (Nat.le_of_ble_eq_true rfl) rfl (Nat.le_of_ble_eq_true rfl) (c_X6_pepperOf (by omega)) ?_
          refine T_iret dX6_answerOfDinner_137 rfl ?_
          rw [show ansD a rq n w = nI (b % 8) by unfold ansD; rw [hd]; exact (if_neg h2).trans ((if_neg (by rw [e37]; decide)).trans ((if_neg (by rw [e37]; decide)).trans ((if_neg (by rw [e37]; decide)).trans ((if_neg (by rw [e37]; decide)).trans ((if_pos e37))))))]; exact rt_i
        | j + 6, hj, _ => exact absurd hj (by simp)
      · refine T_ild1 dX6_answerOfDinner_138 ?_
        refine T_bipush (v := nI 10) dX6_answerOfDinner_139 (by decide) ?_
        refine T_isub dX6_answerOfDinner_141 ?_
        refine T_ist2 dX6_answerOfDinner_142 (by decide) rfl ?_
        refine T_ild2 dX6_answerOfDinner_143 ?_
        refine T_ald0 dX6_answerOfDinner_144 ?_
        refine T_getR (q := nw) dX6_answerOfDinner_145 lf_X6_48 rfl rfl rfl ?_
        refine T_getN dX6_answerOfDinner_148 lf_X6_106 (kT hnw) rfl hdn ?_
        refine T_invS2i (M' := mX6_isBelow) dX6_answerOfDinner_151 ml_X6_64 imX6_isBelow (Nat.le_of_ble_eq_true rfl) rfl (Nat.le_of_ble_eq_true rfl) (c_X6_isBelow (by omega)) ?_
        refine T_ifeqB (tgt := 175) dX6_answerOfDinner_154 (by decide) (fun h154 => ?_) (fun h154 => ?_)
        · refine T_bipush (v := -9) dX6_answerOfDinner_175 (by decide) ?_
          refine T_iret dX6_answerOfDinner_177 rfl ?_
          first
            | exact absurd e37 h2
            | (rw [show ansD a rq n w = -9 by unfold ansD; rw [hd]; exact (if_neg h2).trans ((if_neg (e37 0 (by decide))).trans ((if_neg (e37 2 (by decide))).trans ((if_neg (e37 3 (by decide))).trans ((if_neg (e37 4 (by decide))).trans ((if_neg (e37 5 (by decide))).trans (if_neg (by simp [h154])))))))]; exact rt_i)
            | (rw [show ansD a rq n w = who (a 0 0) (a 8 e) (b / 8) (b % 8) by unfold ansD; rw [hd]; exact (if_neg h2).trans ((if_neg (e37 0 (by decide))).trans ((if_neg (e37 2 (by decide))).trans ((if_neg (e37 3 (by decide))).trans ((if_neg (e37 4 (by decide))).trans ((if_neg (e37 5 (by decide))).trans ((if_pos (by rw [hq]; exact h154)).trans (by rw [hq, ix_n (by omega)])))))))]; exact rt_i)
        · obtain ⟨e, he, hq⟩ := blw_t h154
          rw [hq] at h154
          rw [hq]
          refine T_ald0 dX6_answerOfDinner_157 ?_
          refine T_getR (q := nw) dX6_answerOfDinner_158 lf_X6_48 rfl rfl rfl ?_
          refine T_ild2 dX6_answerOfDinner_161 ?_
          refine T_ald0 dX6_answerOfDinner_162 ?_
          refine T_getR (q := 12) dX6_answerOfDinner_163 lf_X6_27 rfl rfl rfl ?_
          refine T_getN dX6_answerOfDinner_166 lf_X6_160 rfl rfl hs.1 ?_
          refine T_invV2i (M' := mX4_ownerOfDish) dX6_answerOfDinner_169 ml_X6_118 imX4_ownerOfDish (kT hnw) (Nat.le_of_ble_eq_true rfl) rfl (Nat.le_of_ble_eq_true rfl) rfl (Nat.le_of_ble_eq_true rfl) (c_X4_ownerOfDish hnw hV hW hb.1 hb.2.1 hb.2.2 he) ?_
          refine T_goto (tgt := 177) dX6_answerOfDinner_172 (by decide) ?_
          refine T_iret dX6_answerOfDinner_177 rfl ?_
          first
            | exact absurd e37 h2
            | (rw [show ansD a rq n w = -9 by unfold ansD; rw [hd]; exact (if_neg h2).trans ((if_neg (e37 0 (by decide))).trans ((if_neg (e37 2 (by decide))).trans ((if_neg (e37 3 (by decide))).trans ((if_neg (e37 4 (by decide))).trans ((if_neg (e37 5 (by decide))).trans (if_neg (by simp [h154])))))))]; exact rt_i)
            | (rw [show ansD a rq n w = who (a 0 0) (a 8 e) (b / 8) (b % 8) by unfold ansD; rw [hd]; exact (if_neg h2).trans ((if_neg (e37 0 (by decide))).trans ((if_neg (e37 2 (by decide))).trans ((if_neg (e37 3 (by decide))).trans ((if_neg (e37 4 (by decide))).trans ((if_neg (e37 5 (by decide))).trans ((if_pos (by rw [hq]; exact h154)).trans (by rw [hq, ix_n (by omega)])))))))]; exact rt_i)
    · refine T_ald0 dX6_answerOfDinner_5 ?_
      refine T_getR (q := 12) dX6_answerOfDinner_6 lf_X6_27 rfl rfl rfl ?_
      refine T_getV dX6_answerOfDinner_9 lf_X6_154 rfl rfl hs.2.2 ?_
      refine T_iret dX6_answerOfDinner_12 rfl ?_
      rw [show ansD a rq n w = -9 by unfold ansD; rw [hd]; exact if_pos h2]; exact rt_i
theorem allN_congr {f g : Nat → Bool} : ∀ n, (∀ k, k < n → f k = g k) → allN f n = allN g n
  | 0, _ => rfl
  | n + 1, h => by
    show (allN f n && f n) = (allN g n && g n)
    rw [allN_congr n (fun k hk => h k (by omega)), h n (by omega)]
set_option maxRecDepth 20000 in
theorem c_X6_dinner {S : Nat → Nat → Int32} {L : Nat → Nat → Int64} {nw sp cd : Nat} {d : Nat} (hnw : nw = 19 ∨ nw = 28) {a : Nat → Nat → Nat} (hV : TV S nw a) (hWF : WFA a) {h : HS} (hH : SHC S h) (hBH : BH h) {x l y z w : Int32} : TT mX6_dinner (d + 4) 0 [some (.ref 0), some (.int (x)), some (.int (l)), some (.int (y)), some (.int (z)), some (.int (w)), none, none] [] (S, L, (nw, sp, cd)) (fun r σ' => ∃ S', σ' = (S', L, (nw, sp, cd)) ∧ r = some (.int (aDinner a h x l y z w)) ∧ (∀ q, q ≠ 0 → q ≠ 12 → S' q = S q) ∧ (∀ k, k ≠ 8 → S' 0 k = S 0 k) ∧ S' 0 8 = nI (fDinner h x l y z w)) := by
  obtain ⟨hg, hdn, hso, hbd, hrn, hgu, hdi, hre⟩ := id hV
  obtain ⟨b8, b6, b3, b64, br8⟩ := hWF.b
  refine T_ald0 dX6_dinner_0 ?_
  refine T_iconst (v := nI 0) dX6_dinner_1 (by decide) ?_
  refine T_putI dX6_dinner_2 lf_X6_56 rfl rfl rfl rfl ?_
  refine T_ild1 dX6_dinner_5 ?_
  refine T_invS1i (M' := mX6_isSheet) dX6_dinner_6 ml_X6_60 imX6_isSheet (Nat.le_of_ble_eq_true rfl) rfl (Nat.le_of_ble_eq_true rfl) c_X6_isSheet ?_
  refine T_ifneB (tgt := 14) dX6_dinner_9 (by decide) (fun h9 => ?_) (fun h9 => ?_)
  · obtain ⟨j, hj, rfl⟩ := blw_t h9
    have ij : ix (nI j) = j := ix_n (by omega)
    have hJ := hH j hj
    have hB := hBH j hj
    refine T_ild2 dX6_dinner_14 ?_
    refine T_iconst (v := nI 3) dX6_dinner_15 (by decide) ?_
    refine T_invS2i (M' := mX6_isBelow) dX6_dinner_16 ml_X6_64 imX6_isBelow (Nat.le_of_ble_eq_true rfl) rfl (Nat.le_of_ble_eq_true rfl) (c_X6_isBelow (by omega)) ?_
    refine T_ifeqB (tgt := 40) dX6_dinner_19 (by decide) (fun h19 => ?_) (fun h19 => ?_)
    · refine T_bipush (v := -2) dX6_dinner_40 (by decide) ?_
      refine T_iret dX6_dinner_42 rfl ?_
      have hc : (blw l 3 && blw z 41 && asked w) = false := by first | (rw [h19]; rfl) | (rw [h19, h29]; rfl) | (rw [h19, h29, h37]; rfl)
      rw [show aDinner a h (nI j) l y z w = -2 from (if_pos h9).trans (if_neg (by simp [hc])), show fDinner h (nI j) l y z w = 0 from if_neg (by simp [hc])]; exact ⟨_, rfl, rfl, fun q hq _ => uI_p hq, fun k hk => uI_k hk, uI_s⟩
    · refine T_ild4 dX6_dinner_22 ?_
      refine T_bipush (v := nI 41) dX6_dinner_24 (by decide) ?_
      refine T_invS2i (M' := mX6_isBelow) dX6_dinner_26 ml_X6_64 imX6_isBelow (Nat.le_of_ble_eq_true rfl) rfl (Nat.le_of_ble_eq_true rfl) (c_X6_isBelow (by omega)) ?_
      refine T_ifeqB (tgt := 40) dX6_dinner_29 (by decide) (fun h29 => ?_) (fun h29 => ?_)
      · refine T_bipush (v := -2) dX6_dinner_40 (by decide) ?_
        refine T_iret dX6_dinner_42 rfl ?_
        have hc : (blw l 3 && blw z 41 && asked w) = false := by first | (rw [h19]; rfl) | (rw [h19, h29]; rfl) | (rw [h19, h29, h37]; rfl)
        rw [show aDinner a h (nI j) l y z w = -2 from (if_pos h9).trans (if_neg (by simp [hc])), show fDinner h (nI j) l y z w = 0 from if_neg (by simp [hc])]; exact ⟨_, rfl, rfl, fun q hq _ => uI_p hq, fun k hk => uI_k hk, uI_s⟩
      · refine T_ild5 dX6_dinner_32 ?_
        refine T_invS1i (M' := mX6_isAskedOfDinner) dX6_dinner_34 ml_X6_141 imX6_isAskedOfDinner (Nat.le_of_ble_eq_true rfl) rfl (Nat.le_of_ble_eq_true rfl) c_X6_isAskedOfDinner ?_
        refine T_ifneB (tgt := 43) dX6_dinner_37 (by decide) (fun h37 => ?_) (fun h37 => ?_)
        · have hfl := fau_le (th := h.1 j) (la := h.2.1 j) (n := h.2.2.1 j) (l := l) (x := y) (y := z)
          refine T_ald0 dX6_dinner_43 ?_
          refine T_getR (q := 1) dX6_dinner_44 lf_X6_13 rfl rfl rfl ?_
          refine T_ild1 dX6_dinner_47 ?_
          refine T_aald dX6_dinner_48 hj rfl ?_
          refine T_ast6 dX6_dinner_49 (by decide) rfl ?_
          refine T_ald6 dX6_dinner_51 ?_
          refine T_ild2 dX6_dinner_53 ?_
          refine T_ild3 dX6_dinner_54 ?_
          refine T_ild4 dX6_dinner_55 ?_
          refine T_invV3i (M' := mX3_faultOfCells) dX6_dinner_57 ml_X6_68 imX3_faultOfCells (kS hj) (Nat.le_of_ble_eq_true rfl) rfl (Nat.le_of_ble_eq_true rfl) rfl (Nat.le_of_ble_eq_true rfl) (c_X3_faultOfCells hj (th := h.1 j) (la := h.2.1 j) (n := h.2.2.1 j) (by rw [uI_p (by omega)]; exact hJ.1) (fun q => by rw [uI_p (by omega)]; exact ⟨(hJ.2.1 q).1, (hJ.2.1 q).2.1, (hJ.2.1 q).2.2⟩)) ?_
          refine T_ist7 dX6_dinner_60 (by decide) rfl ?_
          refine T_ild7 dX6_dinner_62 ?_
          refine T_ifeqN (tgt := 74) dX6_dinner_64 (by decide) (by omega) (fun h64 => ?_) (fun h64 => ?_)
          · obtain ⟨t1, t2, t3, t4⟩ := fau_0 h64
            obtain ⟨f, m, rfl, rfl, hfm⟩ := hasB_t t4
            have le6 := (hB t1).2
            have hm : m < 41 := by have q := h29; rw [blw_d (by omega) (by decide)] at q; exact of_decide_eq_true q
            have if_ : ix (nI f) = f := ix_n (by omega)
            have im : ix (nI m) = m := ix_n (by omega)
            have hf0 : fC h (nI j) l (nI f) (nI m) = 0 := by unfold fC; rw [ij]; exact h64
            refine T_ald0 dX6_dinner_74 ?_
            refine T_getR (q := nw) dX6_dinner_75 lf_X6_48 rfl rfl rfl ?_
            refine T_invV0i (M' := mX4_isLaid) dX6_dinner_78 ml_X6_125 imX4_isLaid (kT hnw) (Nat.le_of_ble_eq_true rfl) rfl (Nat.le_of_ble_eq_true rfl) rfl (Nat.le_of_ble_eq_true rfl) (c_X4_isLaid hnw (by rw [uI_p (by omega)]; exact hg) b8) ?_
            refine T_ifneB (tgt := 87) dX6_dinner_81 (by decide) (fun h81 => ?_) (fun h81 => ?_)
            · have h0 : 0 < a 0 0 := of_decide_eq_true h81
              have hW := hWF.g h0
              have hV1 : TV (uI S 0 8 (nI 0)) nw a := TV_7 hnw hV
              have hok : allN (fun k => blw (uI S 0 8 (nI 0) (6 + j) (f + k)) 4) m = okH h (nI j) (nI f) (nI m) := by
                unfold okH
                rw [ij, if_, im]
                exact allN_congr m (fun k hk => by rw [uI_p (by omega), hJ.2.2 _ (by omega)])
              refine T_ald6 dX6_dinner_87 ?_
              refine T_ild3 dX6_dinner_89 ?_
              refine T_ild4 dX6_dinner_90 ?_
              refine T_invV2i (M' := mX3_areRequests) dX6_dinner_92 ml_X6_144 imX3_areRequests (kS hj) (Nat.le_of_ble_eq_true rfl) rfl (Nat.le_of_ble_eq_true rfl) rfl (Nat.le_of_ble_eq_true rfl) (c_X3_areRequests hj (by omega)) ?_
              rw [hok]
              refine T_ifneB (tgt := 101) dX6_dinner_95 (by decide) (fun h95 => ?_) (fun h95 => ?_)
              · have hrq : ∀ k, k < m → rqH h (nI j) (nI f) k < 4 ∧ uI S 0 8 (nI 0) (6 + j) (f + k) = nI (rqH h (nI j) (nI f) k) := fun k hk => by
                  have q := allN_all (hok.trans h95) k hk
                  obtain ⟨r, hr, e⟩ := blw_t q
                  have e2 : rqH h (nI j) (nI f) k = r := by
                    unfold rqH
                    rw [ij, if_, ← hJ.2.2 (f + k) (by omega), show S (6 + j) (f + k) = nI r by rw [← e, uI_p (by omega)], ix_n (by omega)]
                  rw [e2]; exact ⟨hr, e⟩
                refine T_ald0 dX6_dinner_101 ?_
                refine T_getR (q := 12) dX6_dinner_102 lf_X6_27 rfl rfl rfl ?_
                refine T_ald0 dX6_dinner_105 ?_
                refine T_getR (q := nw) dX6_dinner_106 lf_X6_48 rfl rfl rfl ?_
                refine T_ald6 dX6_dinner_109 ?_
                refine T_getR (q := 6 + j) dX6_dinner_111 lf_X6_76 (kS hj) rfl (rS hj) ?_
                refine T_ild3 dX6_dinner_114 ?_
                refine T_ild4 dX6_dinner_115 ?_
                refine T_invV4 (M' := mX0_serve) dX6_dinner_117 ml_X6_147 imX0_serve rfl (Nat.le_of_ble_eq_true rfl) rfl (Nat.le_of_ble_eq_true rfl) rfl (Nat.le_of_ble_eq_true rfl) (c_X0_serve hnw hV1 hW hj (by omega) (by omega) hrq) (fun r σ' hq => ?_)
                obtain ⟨rfl, S2, rfl, p1, p2⟩ := hq
                have hV2 : TV S2 nw a := hV1.cong (fun q h1 h2 _ => p1 q (by omega))
                refine T_ald0 dX6_dinner_120 ?_
                refine T_ild5 dX6_dinner_121 ?_
                refine T_invV1i (M' := mX6_answerOfDinner) dX6_dinner_123 ml_X6_151 imX6_answerOfDinner rfl (Nat.le_of_ble_eq_true rfl) rfl (Nat.le_of_ble_eq_true rfl) rfl (Nat.le_of_ble_eq_true rfl) (c_X6_answerOfDinner hnw hV2 hW p2 (by omega)) ?_
                refine T_iret dX6_dinner_126 rfl ?_
                rw [show aDinner a h (nI j) l (nI f) (nI m) w = ansD a (rqH h (nI j) (nI f)) m w from (if_pos h9).trans ((if_pos (by rw [h19, h29, h37]; rfl)).trans ((if_neg (fun q => q hf0)).trans ((if_neg (by omega)).trans ((if_pos h95).trans (by rw [im]))))), show fDinner h (nI j) l (nI f) (nI m) w = 0 from (if_pos (by rw [h9, h19, h29, h37]; rfl)).trans hf0]; exact ⟨S2, rfl, rfl, fun q h1 h2 => by rw [p1 q h2, uI_p h1], fun k hk => by rw [p1 0 (by decide), uI_k hk], by rw [p1 0 (by decide), uI_s]⟩
              · refine T_bipush (v := -2) dX6_dinner_98 (by decide) ?_
                refine T_iret dX6_dinner_100 rfl ?_
                rw [show aDinner a h (nI j) l (nI f) (nI m) w = -2 from (if_pos h9).trans ((if_pos (by rw [h19, h29, h37]; rfl)).trans ((if_neg (fun q => q hf0)).trans ((if_neg (by omega)).trans (if_neg (by simp [h95]))))), show fDinner h (nI j) l (nI f) (nI m) w = 0 from (if_pos (by rw [h9, h19, h29, h37]; rfl)).trans hf0]; exact ⟨_, rfl, rfl, fun q hq _ => uI_p hq, fun k hk => uI_k hk, uI_s⟩
            · refine T_bipush (v := -3) dX6_dinner_84 (by decide) ?_
              refine T_iret dX6_dinner_86 rfl ?_
              rw [show aDinner a h (nI j) l (nI f) (nI m) w = -3 from (if_pos h9).trans ((if_pos (by rw [h19, h29, h37]; rfl)).trans ((if_neg (fun q => q hf0)).trans (if_pos (by have := of_decide_eq_false h81; omega)))), show fDinner h (nI j) l (nI f) (nI m) w = 0 from (if_pos (by rw [h9, h19, h29, h37]; rfl)).trans hf0]; exact ⟨_, rfl, rfl, fun q hq _ => uI_p hq, fun k hk => uI_k hk, uI_s⟩
          · refine T_ald0 dX6_dinner_67 ?_
            refine T_ild7 dX6_dinner_68 ?_
            refine T_invV1i (M' := mX6_broken) dX6_dinner_70 ml_X6_72 imX6_broken rfl (Nat.le_of_ble_eq_true rfl) rfl (Nat.le_of_ble_eq_true rfl) rfl (Nat.le_of_ble_eq_true rfl) c_X6_broken ?_
            refine T_iret dX6_dinner_73 rfl ?_
            have hf : fC h (nI j) l y z = fau (h.1 j) (h.2.1 j) (h.2.2.1 j) l y z := by unfold fC; rw [ij]
            rw [show aDinner a h (nI j) l y z w = -10 - nI (fau (h.1 j) (h.2.1 j) (h.2.2.1 j) l y z) from (if_pos h9).trans ((if_pos (by rw [h19, h29, h37]; rfl)).trans ((if_pos (by rw [hf]; exact h64)).trans (by rw [hf]))), show fDinner h (nI j) l y z w = fau (h.1 j) (h.2.1 j) (h.2.2.1 j) l y z from (if_pos (by rw [h9, h19, h29, h37]; rfl)).trans hf]; exact ⟨_, rfl, rfl, fun q hq _ => by rw [uI_p hq, uI_p hq], fun k hk => by rw [uI_k hk, uI_k hk], uI_s⟩
        · refine T_bipush (v := -2) dX6_dinner_40 (by decide) ?_
          refine T_iret dX6_dinner_42 rfl ?_
          have hc : (blw l 3 && blw z 41 && asked w) = false := by first | (rw [h19]; rfl) | (rw [h19, h29]; rfl) | (rw [h19, h29, h37]; rfl)
          rw [show aDinner a h (nI j) l y z w = -2 from (if_pos h9).trans (if_neg (by simp [hc])), show fDinner h (nI j) l y z w = 0 from if_neg (by simp [hc])]; exact ⟨_, rfl, rfl, fun q hq _ => uI_p hq, fun k hk => uI_k hk, uI_s⟩
  · refine T_iconst (v := -1) dX6_dinner_12 (by decide) ?_
    refine T_iret dX6_dinner_13 rfl ?_
    rw [show aDinner a h x l y z w = -1 from if_neg (by simp [h9]), show fDinner h x l y z w = 0 from if_neg (by simp [h9])]; exact ⟨_, rfl, rfl, fun q hq _ => uI_p hq, fun k hk => uI_k hk, uI_s⟩
def coH (h : HS) (x i : Int32) : Nat → Int32 := fun k => h.2.2.2 (ix x) (ix i + k)
noncomputable def aTable (h : HS) (x l i n : Int32) : Int32 := if blw x 4 then (if blw l 3 then (if fC h x l i n ≠ 0 then -10 - nI (fC h x l i n) else if (psr (ix n) (coH h x i)).1 then nI (psr (ix n) (coH h x i)).2.2.1 else -100 - nI (psr (ix n) (coH h x i)).2.1) else -2) else -1
noncomputable def fTable (h : HS) (x l i n : Int32) : Nat := if blw x 4 && blw l 3 then fC h x l i n else 0
noncomputable def sTable (a : Nat → Nat → Nat) (h : HS) (x l i n : Int32) : Nat → Nat → Nat := if blw x 4 && blw l 3 && decide (fC h x l i n = 0) && (psr (ix n) (coH h x i)).1 then pTab (ix n) (coH h x i) (psr (ix n) (coH h x i)).2.2.1 (psr (ix n) (coH h x i)).2.2.2 else a
set_option maxRecDepth 20000 in
theorem c_X5_open {S : Nat → Nat → Int32} {L : Nat → Nat → Int64} {nw sp cd : Nat} {d : Nat} {j f n : Nat} : TT mX5_open (d + 0) 0 [some (.ref 10), some (.ref (6 + j)), some (.int (nI f)), some (.int (nI n))] [] (S, L, (nw, sp, cd)) (rt none (uI (uI (uI S 10 1 (nI f)) 10 2 (nI n)) 10 3 (nI 0), L, (nw, sp, 6 + j))) := by
  refine T_ald0 dX5_open_0 ?_
  refine T_ald1 dX5_open_1 ?_
  refine T_putCodes dX5_open_2 lf_X5_9 ?_
  refine T_ald0 dX5_open_5 ?_
  refine T_ild2 dX5_open_6 ?_
  refine T_putI dX5_open_7 lf_X5_15 rfl rfl rfl rfl ?_
  refine T_ald0 dX5_open_10 ?_
  refine T_ild3 dX5_open_11 ?_
  refine T_putI dX5_open_12 lf_X5_19 rfl rfl rfl rfl ?_
  refine T_ald0 dX5_open_15 ?_
  refine T_iconst (v := nI 0) dX5_open_16 (by decide) ?_
  refine T_putI dX5_open_17 lf_X5_22 rfl rfl rfl rfl ?_
  refine T_vret dX5_open_20 rfl ?_
  exact rt_i
set_option maxRecDepth 20000 in
theorem c_X6_table {S : Nat → Nat → Int32} {L : Nat → Nat → Int64} {nw sp cd : Nat} {d : Nat} (hns : (nw = 19 ∧ sp = 28) ∨ (nw = 28 ∧ sp = 19)) {a : Nat → Nat → Nat} (hV : TV S nw a) (hWF : WFA a) {h : HS} (hH : SHC S h) (hBH : BH h) {x l y z : Int32} : TT mX6_table (d + 6) 0 [some (.ref 0), some (.int (x)), some (.int (l)), some (.int (y)), some (.int (z)), none, none] [] (S, L, (nw, sp, cd)) (fun r σ' => ∃ S' nw' sp' cd', σ' = (S', L, (nw', sp', cd')) ∧ r = some (.int (aTable h x l y z)) ∧ ((nw' = 19 ∧ sp' = 28) ∨ (nw' = 28 ∧ sp' = 19)) ∧ TV S' nw' (sTable a h x l y z) ∧ (∀ q, (2 ≤ q ∧ q ≤ 9) ∨ 37 ≤ q → S' q = S q) ∧ (∀ k, k ≠ 8 → S' 0 k = S 0 k) ∧ S' 0 8 = nI (fTable h x l y z)) := by
  have hnw : nw = 19 ∨ nw = 28 := by omega
  have hsp : sp = 19 ∨ sp = 28 := by omega
  obtain ⟨hg, hdn, hso, hbd, hrn, hgu, hdi, hre⟩ := id hV
  obtain ⟨b8, b6, b3, b64, br8⟩ := hWF.b
  refine T_ald0 dX6_table_0 ?_
  refine T_iconst (v := nI 0) dX6_table_1 (by decide) ?_
  refine T_putI dX6_table_2 lf_X6_56 rfl rfl rfl rfl ?_
  refine T_ild1 dX6_table_5 ?_
  refine T_invS1i (M' := mX6_isSheet) dX6_table_6 ml_X6_60 imX6_isSheet (Nat.le_of_ble_eq_true rfl) rfl (Nat.le_of_ble_eq_true rfl) c_X6_isSheet ?_
  refine T_ifneB (tgt := 14) dX6_table_9 (by decide) (fun h9 => ?_) (fun h9 => ?_)
  · obtain ⟨j, hj, rfl⟩ := blw_t h9
    have ij : ix (nI j) = j := ix_n (by omega)
    have hJ := hH j hj
    have hB := hBH j hj
    refine T_ild2 dX6_table_14 ?_
    refine T_iconst (v := nI 3) dX6_table_15 (by decide) ?_
    refine T_invS2i (M' := mX6_isBelow) dX6_table_16 ml_X6_64 imX6_isBelow (Nat.le_of_ble_eq_true rfl) rfl (Nat.le_of_ble_eq_true rfl) (c_X6_isBelow (by omega)) ?_
    refine T_ifneB (tgt := 25) dX6_table_19 (by decide) (fun h19 => ?_) (fun h19 => ?_)
    · have hfl := fau_le (th := h.1 j) (la := h.2.1 j) (n := h.2.2.1 j) (l := l) (x := y) (y := z)
      refine T_ald0 dX6_table_25 ?_
      refine T_getR (q := 1) dX6_table_26 lf_X6_13 rfl rfl rfl ?_
      refine T_ild1 dX6_table_29 ?_
      refine T_aald dX6_table_30 hj rfl ?_
      refine T_ild2 dX6_table_31 ?_
      refine T_ild3 dX6_table_32 ?_
      refine T_ild4 dX6_table_33 ?_
      refine T_invV3i (M' := mX3_faultOfCells) dX6_table_35 ml_X6_68 imX3_faultOfCells (kS hj) (Nat.le_of_ble_eq_true rfl) rfl (Nat.le_of_ble_eq_true rfl) rfl (Nat.le_of_ble_eq_true rfl) (c_X3_faultOfCells hj (th := h.1 j) (la := h.2.1 j) (n := h.2.2.1 j) (by rw [uI_p (by omega)]; exact hJ.1) (fun q => by rw [uI_p (by omega)]; exact ⟨(hJ.2.1 q).1, (hJ.2.1 q).2.1, (hJ.2.1 q).2.2⟩)) ?_
      refine T_ist5 dX6_table_38 (by decide) rfl ?_
      refine T_ild5 dX6_table_40 ?_
      refine T_ifeqN (tgt := 52) dX6_table_42 (by decide) (by omega) (fun h42 => ?_) (fun h42 => ?_)
      · obtain ⟨t1, t2, t3, t4⟩ := fau_0 h42
        obtain ⟨f, m, rfl, rfl, hfm⟩ := hasB_t t4
        have le6 := (hB t1).2
        have if_ : ix (nI f) = f := ix_n (by omega)
        have im : ix (nI m) = m := ix_n (by omega)
        have hf0 : fC h (nI j) l (nI f) (nI m) = 0 := by unfold fC; rw [ij]; exact h42
        refine T_ald0 dX6_table_52 ?_
        refine T_getR (q := 10) dX6_table_53 lf_X6_20 rfl rfl rfl ?_
        refine T_ald0 dX6_table_56 ?_
        refine T_getR (q := 1) dX6_table_57 lf_X6_13 rfl rfl rfl ?_
        refine T_ild1 dX6_table_60 ?_
        refine T_aald dX6_table_61 hj rfl ?_
        refine T_getR (q := 6 + j) dX6_table_62 lf_X6_76 (kS hj) rfl (rS hj) ?_
        refine T_ild3 dX6_table_65 ?_
        refine T_ild4 dX6_table_66 ?_
        refine T_invV3v (M' := mX5_open) dX6_table_68 ml_X6_80 imX5_open rfl (Nat.le_of_ble_eq_true rfl) rfl (Nat.le_of_ble_eq_true rfl) rfl (Nat.le_of_ble_eq_true rfl) c_X5_open ?_
        refine T_ald0 dX6_table_71 ?_
        refine T_getR (q := sp) dX6_table_72 lf_X6_52 rfl rfl rfl ?_
        refine T_ald0 dX6_table_75 ?_
        refine T_getR (q := 10) dX6_table_76 lf_X6_20 rfl rfl rfl ?_
        refine T_invV1 (M' := mX4_lay) dX6_table_79 ml_X6_84 imX4_lay (kT hsp) (Nat.le_of_ble_eq_true rfl) rfl (Nat.le_of_ble_eq_true rfl) rfl (Nat.le_of_ble_eq_true rfl) (c_X4_lay hsp hj (by omega) (show RD (uI (uI (uI (uI S 0 8 (nI 0)) 10 1 (nI f)) 10 2 (nI m)) 10 3 (nI 0)) j f m 0 (coH h (nI j) (nI f)) from ⟨by simp [uI], by simp [uI], by simp [uI], fun k hk => by rw [uI_p (by omega), uI_p (by omega), uI_p (by omega), uI_p (by omega), hJ.2.2 _ (by omega)]; unfold coH; rw [ij, if_]⟩)) (fun r σ' hq => ?_)
        obtain ⟨S2, rfl, p1, rfl, p3, p4⟩ := hq
        have fr : ∀ q, q ≠ 0 → q ≠ 10 → ¬ (sp ≤ q ∧ q ≤ sp + 8) → S2 q = S q := fun q h1 h2 h3 => by rw [p1 q h2 h3, uI_p h2, uI_p h2, uI_p h2, uI_p h1]
        have fr0 : S2 0 = uI S 0 8 (nI 0) 0 := by rw [p1 0 (by decide) (by omega), uI_p (by decide), uI_p (by decide), uI_p (by decide)]
        refine T_ifneB (tgt := 96) dX6_table_82 (by decide) (fun h82 => ?_) (fun h82 => ?_)
        · refine T_ald0 dX6_table_96 ?_
          refine T_getR (q := sp) dX6_table_97 lf_X6_52 rfl rfl rfl ?_
          refine T_ast6 dX6_table_100 (by decide) rfl ?_
          refine T_ald0 dX6_table_102 ?_
          refine T_ald0 dX6_table_103 ?_
          refine T_getR (q := nw) dX6_table_104 lf_X6_48 rfl rfl rfl ?_
          refine T_putSpare dX6_table_107 lf_X6_52 ?_
          refine T_ald0 dX6_table_110 ?_
          refine T_ald6 dX6_table_111 ?_
          refine T_putNow dX6_table_113 lf_X6_48 ?_
          refine T_ald0 dX6_table_116 ?_
          refine T_getR (q := sp) dX6_table_117 lf_X6_48 rfl rfl rfl ?_
          refine T_getN dX6_table_120 lf_X6_91 (kT hsp) rfl ((p3 h82).1) ?_
          refine T_iret dX6_table_123 rfl ?_
          rw [show aTable h (nI j) l (nI f) (nI m) = nI (psr m (coH h (nI j) (nI f))).2.2.1 from (if_pos h9).trans ((if_pos h19).trans ((if_neg (fun q => q hf0)).trans (by rw [im, if_pos h82]))), show sTable a h (nI j) l (nI f) (nI m) = pTab m (coH h (nI j) (nI f)) (psr m (coH h (nI j) (nI f))).2.2.1 (psr m (coH h (nI j) (nI f))).2.2.2 from (if_pos (by rw [im, h9, h19, decide_eq_true hf0, h82]; rfl)).trans (by rw [im]), show fTable h (nI j) l (nI f) (nI m) = 0 from (if_pos (by rw [h9, h19]; rfl)).trans hf0]
          exact ⟨S2, sp, nw, _, rfl, rfl, (by omega), p3 h82, fun q hq => fr q (by omega) (by omega) (by omega), fun k hk => by rw [fr0, uI_k hk], by rw [fr0, uI_s]⟩
        · refine T_bipush (v := -100) dX6_table_85 (by decide) ?_
          refine T_ald0 dX6_table_87 ?_
          refine T_getR (q := 10) dX6_table_88 lf_X6_20 rfl rfl rfl ?_
          refine T_getIN dX6_table_91 lf_X6_88 rfl rfl ?_
          rw [(p4 h82)]
          refine T_isub dX6_table_94 ?_
          refine T_iret dX6_table_95 rfl ?_
          rw [show aTable h (nI j) l (nI f) (nI m) = -100 - nI (psr m (coH h (nI j) (nI f))).2.1 from (if_pos h9).trans ((if_pos h19).trans ((if_neg (fun q => q hf0)).trans (by rw [im, if_neg (by simp [h82])]))), show sTable a h (nI j) l (nI f) (nI m) = a from if_neg (by rw [im, h82]; simp), show fTable h (nI j) l (nI f) (nI m) = 0 from (if_pos (by rw [h9, h19]; rfl)).trans hf0]
          exact ⟨S2, _, _, _, rfl, rfl, hns, hV.cong (fun q h1 h2 _ => fr q (by omega) (by omega) (by omega)), fun q hq => fr q (by omega) (by omega) (by omega), fun k hk => by rw [fr0, uI_k hk], by rw [fr0, uI_s]⟩
      · refine T_ald0 dX6_table_45 ?_
        refine T_ild5 dX6_table_46 ?_
        refine T_invV1i (M' := mX6_broken) dX6_table_48 ml_X6_72 imX6_broken rfl (Nat.le_of_ble_eq_true rfl) rfl (Nat.le_of_ble_eq_true rfl) rfl (Nat.le_of_ble_eq_true rfl) c_X6_broken ?_
        refine T_iret dX6_table_51 rfl ?_
        have hf : fC h (nI j) l y z = fau (h.1 j) (h.2.1 j) (h.2.2.1 j) l y z := by unfold fC; rw [ij]
        rw [show aTable h (nI j) l y z = -10 - nI (fau (h.1 j) (h.2.1 j) (h.2.2.1 j) l y z) from (if_pos h9).trans ((if_pos h19).trans ((if_pos (by rw [hf]; exact h42)).trans (by rw [hf]))), show sTable a h (nI j) l y z = a from if_neg (by rw [hf, decide_eq_false h42]; simp), show fTable h (nI j) l y z = fau (h.1 j) (h.2.1 j) (h.2.2.1 j) l y z from (if_pos (by rw [h9, h19]; rfl)).trans hf]; exact ⟨_, _, _, _, rfl, rfl, hns, TV_7 hnw (TV_7 hnw hV), fun q hq => by rw [uI_p (by omega), uI_p (by omega)], fun k hk => by rw [uI_k hk, uI_k hk], uI_s⟩
    · refine T_bipush (v := -2) dX6_table_22 (by decide) ?_
      refine T_iret dX6_table_24 rfl ?_
      rw [show aTable h (nI j) l y z = -2 from (if_pos h9).trans (if_neg (by simp [h19])), show sTable a h (nI j) l y z = a from if_neg (by simp [h19]), show fTable h (nI j) l y z = 0 from if_neg (by simp [h19])]; exact ⟨_, _, _, _, rfl, rfl, hns, TV_7 hnw hV, fun q hq => uI_p (by omega), fun k hk => uI_k hk, uI_s⟩
  · refine T_iconst (v := -1) dX6_table_12 (by decide) ?_
    refine T_iret dX6_table_13 rfl ?_
    rw [show aTable h x l y z = -1 from if_neg (by simp [h9]), show sTable a h x l y z = a from if_neg (by simp [h9]), show fTable h x l y z = 0 from if_neg (by simp [h9])]; exact ⟨_, _, _, _, rfl, rfl, hns, TV_7 hnw hV, fun q hq => uI_p (by omega), fun k hk => uI_k hk, uI_s⟩
